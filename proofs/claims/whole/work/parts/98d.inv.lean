/-! What holds of the fixed cells as they are made. -/
def eE : PM := bmm lwM bz
def bzq (M : BM) (a : Int) : Bool := match M with
  | [] => true
  | e :: M => if a = e.1 then decide (e.2.1 = 0 ∧ e.2.2 = []) else bzq M a
theorem bzq_s (a : Int) : ∀ M : BM, bzq M a = true → bmm M bz a = zf := by
  intro M
  induction M with
  | nil => intro _; rfl
  | cons e M ih =>
    intro h
    unfold bzq at h
    show setA (bmm M bz) e.1 (bcf e.2.1 e.2.2) a = zf
    rw [sA_s]
    split at h
    · rename_i he
      rw [decide_eq_true_eq] at h
      rw [if_pos he, h.1, h.2]
      rfl
    · rename_i he
      rw [if_neg he]
      exact ih h
theorem eZ (a : Int) (h : bzq lwM a = true) : eE a = zf := bzq_s a lwM h
theorem zf_s (k : Int) : zf k = 0 := rfl
theorem e_bl (a : Int) (h : bzq lwM a = true) : bl (eE a) := by
  intro k; rw [eZ a h]; exact Or.inl rfl
theorem e_pgs (a : Int) (h : bzq lwM a = true) : pgs (eE a) := by
  intro k; rw [eZ a h, zf_s]; omega
theorem e_okc (a : Int) (h : bzq lwM a = true) : okc (eE a) := by
  intro k; rw [eZ a h, zf_s]; unfold okS; omega
theorem e_r9 (a : Int) (h : bzq lwM a = true) : r9 (eE a) := by
  intro k; rw [eZ a h, zf_s]; omega
theorem e_0 (a k : Int) (h : bzq lwM a = true) : eE a k = 0 := by rw [eZ a h]; rfl
theorem e81_0 : eE 81 0 = 0 := by decide +kernel
theorem e81_5 : eE 81 5 = 0 := by decide +kernel
theorem e81_6 : eE 81 6 = 0 := by decide +kernel
theorem e81_22 : eE 81 22 = 0 := by decide +kernel
theorem e81_34 : eE 81 34 = 0 := by decide +kernel
theorem e81_37 : eE 81 37 = 0 := by decide +kernel
theorem e81_38 : eE 81 38 = 0 := by decide +kernel
theorem e81_44 : eE 81 44 = 0 := by decide +kernel
theorem e81_63 : eE 81 63 = 0 := by decide +kernel
theorem e_StR : StR eE := ⟨by rw [e81_22]; omega, by decide +kernel, e_okc 3 (by decide +kernel), e_bl 99 (by decide +kernel), e_pgs 96 (by decide +kernel), fun s h0 h1 => by rw [e81_22] at h1; omega⟩
theorem e_ScR : ScR eE := ⟨e_okc 61 (by decide +kernel), e_okc 63 (by decide +kernel), e_okc 65 (by decide +kernel), e_pgs 97 (by decide +kernel), e_pgs 98 (by decide +kernel), e_bl 100 (by decide +kernel), e_bl 101 (by decide +kernel), e_pgs 102 (by decide +kernel), e_bl 103 (by decide +kernel)⟩
theorem e_TrR : TrR eE := by
  refine ⟨by rw [e81_0]; omega, by decide +kernel, e_r9 85 (by decide +kernel), fun t h0 h1 => ?_⟩
  have h2 := fun k => e_0 82 k (by decide +kernel)
  have h3 := fun k => e_0 83 k (by decide +kernel)
  have h4 := fun k => e_0 84 k (by decide +kernel)
  have h5 := fun k => e_0 85 k (by decide +kernel)
  rw [h2, h3, h4]
  rcases (show t = 0 ∨ t = 1 ∨ t = 2 ∨ t = 3 ∨ t = 4 by omega) with rfl | rfl | rfl | rfl | rfl <;> exact ⟨by decide +kernel, by decide +kernel, by decide +kernel, fun i _ _ => by rw [h5]; exact e_0 _ _ (by decide +kernel), by decide, by decide, by decide, e_r9 _ (by decide +kernel)⟩
theorem e_SeR : SeR eE := ⟨by rw [e81_34]; omega, by decide +kernel, fun s h0 h1 => by rw [e81_34] at h1; omega⟩
theorem e_PlR : PlR eE := ⟨by rw [e81_37]; omega, by decide +kernel, fun s h0 h1 => by rw [e81_37] at h1; omega⟩
theorem e_BoR : BoR eE := ⟨by rw [e81_38]; omega, by decide +kernel, fun s h0 h1 => by rw [e81_38] at h1; omega⟩
theorem e_HmR : HmR eE := ⟨by decide +kernel, Or.inl e81_44⟩
theorem e_TxR : TxR eE := ⟨by rw [e81_6]; omega, by decide +kernel, (eZ 54 (by decide +kernel)).trans (eZ 86 (by decide +kernel)).symm, fun s h0 h1 => by rw [e81_6] at h1; omega⟩
theorem e_AcR : AcR eE := ⟨by rw [e81_63]; omega, by decide +kernel, fun s h0 h1 => by rw [e81_63] at h1; omega⟩
theorem e_TpR : TpR eE := by
  intro t h0 h1
  have h2 := fun k => e_0 126 k (by decide +kernel)
  have h3 := fun k => e_0 127 k (by decide +kernel)
  rw [h2]
  rcases (show t = 0 ∨ t = 1 ∨ t = 2 ∨ t = 3 ∨ t = 4 ∨ t = 5 by omega) with rfl | rfl | rfl | rfl | rfl | rfl <;> exact ⟨by decide +kernel, by decide +kernel, fun i _ _ => by rw [h3]; exact e_0 _ _ (by decide +kernel), by decide +kernel, by decide, fun _ => rfl⟩
theorem e_JbR : JbR eE [] := ⟨by rw [e81_5]; omega, by decide +kernel, by rw [e81_5]; rfl, ⟨fun q hq => (by cases hq), fun j h0 h1 => by rw [e81_5] at h1; omega⟩, fun j h0 h1 => by rw [e81_5] at h1; omega⟩
theorem mm1_e (xi : Int → Int) (a : Int) (h : 0 ≤ a) : mm1 xi a = eE a := mm1_rd xi h
theorem mm1_k (xi : Int → Int) (a k : Int) (h : 0 ≤ a) : mm1 xi a k = eE a k := by rw [mm1_e xi a h]
theorem mm1_Inv (xi : Int → Int) : Inv (mm1 xi) (mm1 xi) [] := by
  have c : ∀ a : Int, 0 ≤ a → mm1 xi a = eE a := mm1_e xi
  have f : ∀ k : Int, mm1 xi 81 k = eE 81 k := fun k => mm1_k xi 81 k (by decide)
  refine ⟨?_, ?_, ?_, ?_, ?_, ?_, fun h => ?_, ?_, ?_, ?_, ?_, ?_, ?_⟩
  · exact StR_fr (fun a h _ => c a (by omega)) (fun a h _ => c a (by omega)) (fun a h _ => c a (by omega)) (f _) e_StR
  · exact ScR_fr (fun a h _ => c a (by omega)) (fun a h _ => c a (by omega)) (fun a h _ => c a (by omega)) (fun a h _ => c a (by omega)) (fun a h _ => c a (by omega)) e_ScR
  · exact TrR_fr (fun a h _ => c a (by omega)) (fun a h _ => c a (by omega)) (f _) (mm1_k xi 1 2 (by decide)) e_TrR
  · exact SeR_fr (fun a h _ => c a (by omega)) (fun a h _ => c a (by omega)) (f _) e_SeR
  · exact PlR_fr (fun a h _ => c a (by omega)) (fun a h _ => c a (by omega)) (f _) (f _) (f _) e_PlR
  · exact BoR_fr (fun a h _ => c a (by omega)) (fun a h _ => c a (by omega)) (f _) e_BoR
  · rw [f, e81_44] at h
    omega
  · exact HmR_fr (f _) (mm1_k xi 0 2 (by decide)) e_HmR
  · exact TxR_fr (fun a h _ => c a (by omega)) (fun a h _ => c a (by omega)) (f _) (mm1_k xi 53 1 (by decide)) e_TxR
  · exact AcR_fr (fun a h _ => c a (by omega)) (fun a h _ => c a (by omega)) (f _) (mm1_k xi 66 1 (by decide)) e_AcR
  · exact TpR_fr (fun a h _ => c a (by omega)) (fun a h _ => c a (by omega)) e_TpR
  · exact JbR_fr (fun a h => c a (by omega)) (fun a h _ => c a (by omega)) (c 59 (by decide)) (f _) (mm1_k xi 0 5 (by decide)) e_JbR
  · exact ⟨fun _ _ => rfl, rfl⟩
theorem law_run {L : Nat} (hL : L ≤ 3072) (xi : Int → Int) (hxi : ∀ j, in32 (xi j)) : V 100 232 (18, ([some (.inr (.inr (-3))), some (.inr (.inr 0)), some (.inr (.inr 81)), some (.inl 0)], ([], (mm1 xi, (none, ([], L)))))) QF := by
  refine law_loop hL (fun j => ?_) (fun i hi => ?_) ⟨fun i hi => ?_, fun i hi => ?_, fun i hi => ?_⟩ (fun i hi => ?_) 600 0 (mm1 xi) [] (mm1_Inv xi) (by decide) (by decide) (by omega)
  · rw [mm1_ng xi (by decide)]
    exact hxi j
  · rw [mm1_k xi 94 i (by decide)]
    have h : (List.range 16).all (fun i => decide (eE 94 (i : Int) = ltr i)) = true := by decide +kernel
    have := List.all_eq_true.mp h i (List.mem_range.mpr hi)
    rwa [decide_eq_true_eq] at this
  · rw [mm1_ng xi (by decide)]
    have h : (List.range 16).all (fun i => decide (m00 (fun _ => 0) (-20) (i : Int) = ltr i)) = true := by decide +kernel
    have := List.all_eq_true.mp h i (List.mem_range.mpr hi)
    rwa [decide_eq_true_eq] at this
  · rw [mm1_ng xi (by decide)]
    have h : (List.range 6).all (fun i => decide (m00 (fun _ => 0) (-21) (i : Int) = txP.getD i 0)) = true := by decide +kernel
    have := List.all_eq_true.mp h i (List.mem_range.mpr hi)
    rwa [decide_eq_true_eq] at this
  · rw [mm1_ng xi (by decide)]
    have h : (List.range 3).all (fun i => decide (m00 (fun _ => 0) (-22) (i : Int) = 60 + (i : Int))) = true := by decide +kernel
    have := List.all_eq_true.mp h i (List.mem_range.mpr hi)
    rwa [decide_eq_true_eq] at this
  · rw [mm1_ng xi (by decide)]
    have h : (List.range 7).all (fun i => decide (m00 (fun _ => 0) (-2) (i : Int) = kbF (i : Int))) = true := by decide +kernel
    have := List.all_eq_true.mp h i (List.mem_range.mpr hi)
    rwa [decide_eq_true_eq] at this
