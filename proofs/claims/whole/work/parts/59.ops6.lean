/-! Jobs told of, kinds, moves of items: the class against the reference. -/
theorem st_59 {j : Int} (h : 0 ≤ j ∧ j < 6) : stat 59 j = none := by
  rcases c6_of h with rfl | rfl | rfl | rfl | rfl | rfl <;> decide +kernel
set_option maxHeartbeats 2000000 in
theorem p_jobs (m0 : PM) (L : Nat) (j w : Int)  : PairI m0 L 83 146 [.inr (.inr 0), .inl j, .inl w] [.inr (.inr 81), .inl j, .inl w] := by
  intro m dy h D W hD hW
  have h0 := h
  obtain ⟨hSt, hSc, hTr, hSe, hPl, hBo, hIm, hHm, hTx, hAc, hTp, hJb, hCo⟩ := h
  have j1 := hJb.1
  have j2 := hJb.2.1
  have hC : ∃ CL, 0 ≤ j → j < m 81 5 → JC m dy (m 59 j) CL ∧ JR m j CL := by
    by_cases hj : 0 ≤ j ∧ j < m 81 5
    · obtain ⟨CL, h1⟩ := hJb.2.2.2.2 j hj.1 hj.2
      exact ⟨CL, fun _ _ => h1⟩
    · exact ⟨[], fun a b => absurd ⟨a, b⟩ hj⟩
  obtain ⟨CL, hCL⟩ := hC
  refine C_go (k := 55) (by omega) xL_83 (fun d hd => ?_)
  show V d 83 (0, ([some (.inr (.inr 0)), some (.inl j), some (.inl w)], ([], (m, (none, (dy, L)))))) W
  refine v_aload_n (n := 1) xB_83 dX10_jobs_0 rfl rfl ?_
  refine v_iload_n (n := 2) xB_83 dX10_jobs_1 rfl rfl ?_
  refine v_call_v (n := 5) xB_83 dX10_jobs_2 xO_83 iv_10_162 rfl (sh_0 _ _ _) rfl rfl rfl ?_
  refine k_isJob (by omega) (by rw [j2]; exact j1) (fun g1 => ?_) (fun g2 => ?_)
  · refine v_if_eq_n (n := 8) xB_83 dX10_jobs_5 (by decide) rfl (by decide) ?_
    refine v_iload_n (n := 9) xB_83 dX10_jobs_8 rfl rfl ?_
    refine v_call_s (n := 12) xB_83 dX10_jobs_9 xO_83 sp_10_82 (Or.inl rfl) iv_10_82 rfl rfl rfl rfl ?_
    refine k_isEither (by omega)  (fun g3 => ?_) (fun g4 => ?_)
    · refine v_if_ne_y (t := 17) xB_83 dX10_jobs_12 (by decide) rfl (by decide) ?_
      refine v_iload_n (n := 18) xB_83 dX10_jobs_17 rfl rfl ?_
      refine v_if_ne (t := 33) (n := 21) xB_83 dX10_jobs_18 (by decide) rfl rfl (fun g5 => ?_) (fun g5 => ?_)
      · refine v_aload_n (n := 34) xB_83 dX10_jobs_33 rfl rfl ?_
        refine v_gf_s (n := 37) (kz := 4) xB_83 dX10_jobs_34 xO_83 fl_10_30 fg_10_4 (sh_0 _ _ _) rfl st_0_4 rfl ?_
        refine v_iload_n (n := 38) xB_83 dX10_jobs_37 rfl rfl ?_
        refine v_aald_d (n := 39) (lz := 6) xB_83 dX10_jobs_38 (sh_59 _ _ _) (by decide) rfl (by first | omega | (simp only [sA_same, sA_s, ud_s, Int.reduceEq, if_true, if_false, ite_true, ite_false, ↓reduceIte, and_true, true_and, eq_self, Int.add_zero, Int.reduceAdd]; omega) | (simp (disch := omega) only [sA_same, sA_ne, ud_eq, ud_ne, Int.add_zero, Int.reduceAdd]; omega)) (st_59 (by omega)) rfl ?_
        refine v_gf_i (n := 42) (kz := 1) xB_83 dX10_jobs_39 xO_83 fl_10_168 fg_2_1 rfl (sh_dyn' (hCL (by omega) (by omega)).1.1.1 (hCL (by omega) (by omega)).1.1.2.1 _ _) rfl rfl ?_
        refine v_ireturn0 xB_83 dX10_jobs_42 xK_83 ?_
        first | rw [(hCL (by omega) (by omega)).1.1.2.2.1] | rw [(hCL (by omega) (by omega)).1.1.2.2.2] | skip
        refine hW _ _ _ (fun D2 W2 hD2 hW2 => ?_)
        refine c_jobs (CL := CL) (by omega) (by first | omega | (simp only [sA_same, sA_s, ud_s, Int.reduceEq, if_true, if_false, ite_true, ite_false, ↓reduceIte, and_true, true_and, eq_self, Int.add_zero, Int.reduceAdd]; omega) | (simp (disch := omega) only [sA_same, sA_ne, ud_eq, ud_ne, Int.add_zero, Int.reduceAdd]; omega)) (fun a b => (hCL a b).2) (fun gg => ?_) (fun gg => ?_) (fun gg => ?_)
        all_goals (try simp (disch := omega) only [sA_same, sA_ne, ud_eq, ud_ne] at gg)
        all_goals first | (exfalso; omega) | exact hW2 _ h0 | ((try simp (disch := omega) only [sA_same, sA_ne, sA_sA, sA_sr, sB_s, ud_eq, ud_ne, ud_ud, ud_sr, uB_s, Int.add_zero, Int.reduceAdd]); refine hW2 _ ?_; exact h0)
      · refine v_aload_n (n := 22) xB_83 dX10_jobs_21 rfl rfl ?_
        refine v_gf_s (n := 25) (kz := 4) xB_83 dX10_jobs_22 xO_83 fl_10_30 fg_10_4 (sh_0 _ _ _) rfl st_0_4 rfl ?_
        refine v_iload_n (n := 26) xB_83 dX10_jobs_25 rfl rfl ?_
        refine v_aald_d (n := 27) (lz := 6) xB_83 dX10_jobs_26 (sh_59 _ _ _) (by decide) rfl (by first | omega | (simp only [sA_same, sA_s, ud_s, Int.reduceEq, if_true, if_false, ite_true, ite_false, ↓reduceIte, and_true, true_and, eq_self, Int.add_zero, Int.reduceAdd]; omega) | (simp (disch := omega) only [sA_same, sA_ne, ud_eq, ud_ne, Int.add_zero, Int.reduceAdd]; omega)) (st_59 (by omega)) rfl ?_
        refine v_gf_i (n := 30) (kz := 0) xB_83 dX10_jobs_27 xO_83 fl_10_165 fg_2_0 rfl (sh_dyn' (hCL (by omega) (by omega)).1.1.1 (hCL (by omega) (by omega)).1.1.2.1 _ _) rfl rfl ?_
        refine v_goto (t := 42) xB_83 dX10_jobs_30 (by decide) rfl ?_
        refine v_ireturn0 xB_83 dX10_jobs_42 xK_83 ?_
        first | rw [(hCL (by omega) (by omega)).1.1.2.2.1] | rw [(hCL (by omega) (by omega)).1.1.2.2.2] | skip
        refine hW _ _ _ (fun D2 W2 hD2 hW2 => ?_)
        refine c_jobs (CL := CL) (by omega) (by first | omega | (simp only [sA_same, sA_s, ud_s, Int.reduceEq, if_true, if_false, ite_true, ite_false, ↓reduceIte, and_true, true_and, eq_self, Int.add_zero, Int.reduceAdd]; omega) | (simp (disch := omega) only [sA_same, sA_ne, ud_eq, ud_ne, Int.add_zero, Int.reduceAdd]; omega)) (fun a b => (hCL a b).2) (fun gg => ?_) (fun gg => ?_) (fun gg => ?_)
        all_goals (try simp (disch := omega) only [sA_same, sA_ne, ud_eq, ud_ne] at gg)
        all_goals first | (exfalso; omega) | exact hW2 _ h0 | ((try simp (disch := omega) only [sA_same, sA_ne, sA_sA, sA_sr, sB_s, ud_eq, ud_ne, ud_ud, ud_sr, uB_s, Int.add_zero, Int.reduceAdd]); refine hW2 _ ?_; exact h0)
    · refine v_if_ne_n (n := 15) xB_83 dX10_jobs_12 (by decide) rfl (by decide) ?_
      refine v_iconst (n := 16) xB_83 dX10_jobs_15 ⟨by decide, by decide⟩ rfl ?_
      refine v_ireturn0 xB_83 dX10_jobs_16 xK_83 ?_
      first | rw [(hCL (by omega) (by omega)).1.1.2.2.1] | rw [(hCL (by omega) (by omega)).1.1.2.2.2] | skip
      refine hW _ _ _ (fun D2 W2 hD2 hW2 => ?_)
      refine c_jobs (CL := CL) (by omega) (by first | omega | (simp only [sA_same, sA_s, ud_s, Int.reduceEq, if_true, if_false, ite_true, ite_false, ↓reduceIte, and_true, true_and, eq_self, Int.add_zero, Int.reduceAdd]; omega) | (simp (disch := omega) only [sA_same, sA_ne, ud_eq, ud_ne, Int.add_zero, Int.reduceAdd]; omega)) (fun a b => (hCL a b).2) (fun gg => ?_) (fun gg => ?_) (fun gg => ?_)
      all_goals (try simp (disch := omega) only [sA_same, sA_ne, ud_eq, ud_ne] at gg)
      all_goals first | (exfalso; omega) | exact hW2 _ h0 | ((try simp (disch := omega) only [sA_same, sA_ne, sA_sA, sA_sr, sB_s, ud_eq, ud_ne, ud_ud, ud_sr, uB_s, Int.add_zero, Int.reduceAdd]); refine hW2 _ ?_; exact h0)
  · refine v_if_eq_y (t := 15) xB_83 dX10_jobs_5 (by decide) rfl (by decide) ?_
    refine v_iconst (n := 16) xB_83 dX10_jobs_15 ⟨by decide, by decide⟩ rfl ?_
    refine v_ireturn0 xB_83 dX10_jobs_16 xK_83 ?_
    first | rw [(hCL (by omega) (by omega)).1.1.2.2.1] | rw [(hCL (by omega) (by omega)).1.1.2.2.2] | skip
    refine hW _ _ _ (fun D2 W2 hD2 hW2 => ?_)
    refine c_jobs (CL := CL) (by omega) (by first | omega | (simp only [sA_same, sA_s, ud_s, Int.reduceEq, if_true, if_false, ite_true, ite_false, ↓reduceIte, and_true, true_and, eq_self, Int.add_zero, Int.reduceAdd]; omega) | (simp (disch := omega) only [sA_same, sA_ne, ud_eq, ud_ne, Int.add_zero, Int.reduceAdd]; omega)) (fun a b => (hCL a b).2) (fun gg => ?_) (fun gg => ?_) (fun gg => ?_)
    all_goals (try simp (disch := omega) only [sA_same, sA_ne, ud_eq, ud_ne] at gg)
    all_goals first | (exfalso; omega) | exact hW2 _ h0 | ((try simp (disch := omega) only [sA_same, sA_ne, sA_sA, sA_sr, sB_s, ud_eq, ud_ne, ud_ud, ud_sr, uB_s, Int.add_zero, Int.reduceAdd]); refine hW2 _ ?_; exact h0)
def kbF (i : Int) : Int := if i = 0 then -1 else if i ≤ 3 then 0 else i - 3
theorem sh_ka (m : PM) (d : List (Nat × Nat)) (L : Nat) : shp (m, (none, (d, L))) (-2) = (1, 7) := Eq.trans rfl rfl
set_option maxHeartbeats 1000000 in
theorem k_isKind {d : Nat} {x k : Int} {m : PM} {dy : List (Nat × Nat)} {L : Nat} {Q : Option PV → PS → Prop} (hd : 1 ≤ d) (hx : 0 ≤ x ∧ x ≤ 6) (hk : 0 ≤ k ∧ k ≤ 6) (hK : ∀ i : Nat, i < 7 → m (-2) i = kbF i) (o1 : ((k = 0 ∨ x = k ∨ (k = 1 ∧ x = 4) ∨ (k = 2 ∧ x = 5) ∨ (k = 3 ∧ x = 6))) → Q (some (.inl 1)) (m, (none, (dy, L)))) (o2 : (¬ (k = 0 ∨ x = k ∨ (k = 1 ∧ x = 4) ∨ (k = 2 ∧ x = 5) ∨ (k = 3 ∧ x = 6))) → Q (some (.inl 0)) (m, (none, (dy, L)))) : C d 113 [.inl x, .inl k] (m, (none, (dy, L))) Q := by
  refine C_go (k := 0) hd xL_113 (fun d hd => ?_)
  show V d 113 (0, ([some (.inl x), some (.inl k), none, none], ([], (m, (none, (dy, L)))))) Q
  have K0 : m (-2) 0 = -1 := by have := hK 0 (by decide); rw [show ((0 : Nat) : Int) = 0 from rfl] at this; rw [this]; decide
  have K1 : m (-2) 1 = 0 := by have := hK 1 (by decide); rw [show ((1 : Nat) : Int) = 1 from rfl] at this; rw [this]; decide
  have K2 : m (-2) 2 = 0 := by have := hK 2 (by decide); rw [show ((2 : Nat) : Int) = 2 from rfl] at this; rw [this]; decide
  have K3 : m (-2) 3 = 0 := by have := hK 3 (by decide); rw [show ((3 : Nat) : Int) = 3 from rfl] at this; rw [this]; decide
  have K4 : m (-2) 4 = 1 := by have := hK 4 (by decide); rw [show ((4 : Nat) : Int) = 4 from rfl] at this; rw [this]; decide
  have K5 : m (-2) 5 = 2 := by have := hK 5 (by decide); rw [show ((5 : Nat) : Int) = 5 from rfl] at this; rw [this]; decide
  have K6 : m (-2) 6 = 3 := by have := hK 6 (by decide); rw [show ((6 : Nat) : Int) = 6 from rfl] at this; rw [this]; decide
  rcases (by omega : x = 0 ∨ x = 1 ∨ x = 2 ∨ x = 3 ∨ x = 4 ∨ x = 5 ∨ x = 6) with hx | hx | hx | hx | hx | hx | hx
  · subst hx
    refine v_iload_n (n := 1) xB_113 dX10_isKindOrUnder_0 rfl rfl ?_
    refine v_istore_n2 (n := 2) xB_113 dX10_isKindOrUnder_1 rfl rfl ?_
    refine v_iconst (n := 3) xB_113 dX10_isKindOrUnder_2 ⟨by decide, by decide⟩ rfl ?_
    refine v_istore_n3 (n := 4) xB_113 dX10_isKindOrUnder_3 rfl rfl ?_
    refine v_iload_n (n := 5) xB_113 dX10_isKindOrUnder_4 rfl rfl ?_
    refine v_gst_0 (n := 8) xB_113 dX10_isKindOrUnder_5 xO_113 gs_10_291 rfl ?_
    refine v_alen (n := 9) (lz := 7) xB_113 dX10_isKindOrUnder_8 (sh_ka _ _ _) (by decide) rfl rfl ?_
    refine v_ic_ge_n (n := 12) xB_113 dX10_isKindOrUnder_9 (by decide) rfl (by decide) ?_
    refine v_iload_n (n := 13) xB_113 dX10_isKindOrUnder_12 rfl rfl ?_
    refine v_iload_n (n := 14) xB_113 dX10_isKindOrUnder_13 rfl rfl ?_
    refine v_ic_le (t := 29) (n := 17) xB_113 dX10_isKindOrUnder_14 (by decide) rfl rfl (fun g1 => ?_) (fun g1 => ?_)
    · refine v_iload_n (n := 30) xB_113 dX10_isKindOrUnder_29 rfl rfl ?_
      refine v_iload_n (n := 31) xB_113 dX10_isKindOrUnder_30 rfl rfl ?_
      refine v_ic_ne (t := 38) (n := 34) xB_113 dX10_isKindOrUnder_31 (by decide) rfl rfl (fun g2 => ?_) (fun g2 => ?_)
      · refine v_iconst (n := 39) xB_113 dX10_isKindOrUnder_38 ⟨by decide, by decide⟩ rfl ?_
        refine v_ireturn1 xB_113 dX10_isKindOrUnder_39 xK_113 (by decide) ?_
        first | exact o1 (by first | omega | (simp only [sA_same, sA_s, ud_s, Int.reduceEq, if_true, if_false, ite_true, ite_false, ↓reduceIte, and_true, true_and, eq_self, Int.add_zero, Int.reduceAdd]; omega) | (simp (disch := omega) only [sA_same, sA_ne, ud_eq, ud_ne, Int.add_zero, Int.reduceAdd]; omega)) | exact o2 (by first | omega | (simp only [sA_same, sA_s, ud_s, Int.reduceEq, if_true, if_false, ite_true, ite_false, ↓reduceIte, and_true, true_and, eq_self, Int.add_zero, Int.reduceAdd]; omega) | (simp (disch := omega) only [sA_same, sA_ne, ud_eq, ud_ne, Int.add_zero, Int.reduceAdd]; omega))
      · refine v_iconst (n := 35) xB_113 dX10_isKindOrUnder_34 ⟨by decide, by decide⟩ rfl ?_
        refine v_goto (t := 39) xB_113 dX10_isKindOrUnder_35 (by decide) rfl ?_
        refine v_ireturn1 xB_113 dX10_isKindOrUnder_39 xK_113 (by decide) ?_
        first | exact o1 (by first | omega | (simp only [sA_same, sA_s, ud_s, Int.reduceEq, if_true, if_false, ite_true, ite_false, ↓reduceIte, and_true, true_and, eq_self, Int.add_zero, Int.reduceAdd]; omega) | (simp (disch := omega) only [sA_same, sA_ne, ud_eq, ud_ne, Int.add_zero, Int.reduceAdd]; omega)) | exact o2 (by first | omega | (simp only [sA_same, sA_s, ud_s, Int.reduceEq, if_true, if_false, ite_true, ite_false, ↓reduceIte, and_true, true_and, eq_self, Int.add_zero, Int.reduceAdd]; omega) | (simp (disch := omega) only [sA_same, sA_ne, ud_eq, ud_ne, Int.add_zero, Int.reduceAdd]; omega))
    · refine v_gst_0 (n := 20) xB_113 dX10_isKindOrUnder_17 xO_113 gs_10_291 rfl ?_
      refine v_iload_n (n := 21) xB_113 dX10_isKindOrUnder_20 rfl rfl ?_
      refine v_iaload (n := 22) (lz := 7) xB_113 dX10_isKindOrUnder_21 (sh_ka _ _ _) rfl (by first | omega | (simp only [sA_same, sA_s, ud_s, Int.reduceEq, if_true, if_false, ite_true, ite_false, ↓reduceIte, and_true, true_and, eq_self, Int.add_zero, Int.reduceAdd]; omega) | (simp (disch := omega) only [sA_same, sA_ne, ud_eq, ud_ne, Int.add_zero, Int.reduceAdd]; omega)) rfl ?_
      (try simp only [K0, K1, K2, K3, K4, K5, K6])
      refine v_istore_n2 (n := 23) xB_113 dX10_isKindOrUnder_22 rfl rfl ?_
      refine v_iinc3 (n := 26) xB_113 dX10_isKindOrUnder_23 rfl (by first | omega | (simp only [sA_same, sA_s, ud_s, Int.reduceEq, if_true, if_false, ite_true, ite_false, ↓reduceIte, and_true, true_and, eq_self, Int.add_zero, Int.reduceAdd]; omega) | (simp (disch := omega) only [sA_same, sA_ne, ud_eq, ud_ne, Int.add_zero, Int.reduceAdd]; omega)) rfl ?_
      refine v_goto (t := 4) xB_113 dX10_isKindOrUnder_26 (by decide) rfl ?_
      refine v_iload_n (n := 5) xB_113 dX10_isKindOrUnder_4 rfl rfl ?_
      refine v_gst_0 (n := 8) xB_113 dX10_isKindOrUnder_5 xO_113 gs_10_291 rfl ?_
      refine v_alen (n := 9) (lz := 7) xB_113 dX10_isKindOrUnder_8 (sh_ka _ _ _) (by decide) rfl rfl ?_
      refine v_ic_ge_n (n := 12) xB_113 dX10_isKindOrUnder_9 (by decide) rfl (by decide) ?_
      refine v_iload_n (n := 13) xB_113 dX10_isKindOrUnder_12 rfl rfl ?_
      refine v_iload_n (n := 14) xB_113 dX10_isKindOrUnder_13 rfl rfl ?_
      refine v_ic_le (t := 29) (n := 17) xB_113 dX10_isKindOrUnder_14 (by decide) rfl rfl (fun g3 => ?_) (fun g3 => ?_)
      · refine v_iload_n (n := 30) xB_113 dX10_isKindOrUnder_29 rfl rfl ?_
        refine v_iload_n (n := 31) xB_113 dX10_isKindOrUnder_30 rfl rfl ?_
        refine v_ic_ne (t := 38) (n := 34) xB_113 dX10_isKindOrUnder_31 (by decide) rfl rfl (fun g4 => ?_) (fun g4 => ?_)
        · refine v_iconst (n := 39) xB_113 dX10_isKindOrUnder_38 ⟨by decide, by decide⟩ rfl ?_
          refine v_ireturn1 xB_113 dX10_isKindOrUnder_39 xK_113 (by decide) ?_
          first | exact o1 (by first | omega | (simp only [sA_same, sA_s, ud_s, Int.reduceEq, if_true, if_false, ite_true, ite_false, ↓reduceIte, and_true, true_and, eq_self, Int.add_zero, Int.reduceAdd]; omega) | (simp (disch := omega) only [sA_same, sA_ne, ud_eq, ud_ne, Int.add_zero, Int.reduceAdd]; omega)) | exact o2 (by first | omega | (simp only [sA_same, sA_s, ud_s, Int.reduceEq, if_true, if_false, ite_true, ite_false, ↓reduceIte, and_true, true_and, eq_self, Int.add_zero, Int.reduceAdd]; omega) | (simp (disch := omega) only [sA_same, sA_ne, ud_eq, ud_ne, Int.add_zero, Int.reduceAdd]; omega))
        · refine v_iconst (n := 35) xB_113 dX10_isKindOrUnder_34 ⟨by decide, by decide⟩ rfl ?_
          refine v_goto (t := 39) xB_113 dX10_isKindOrUnder_35 (by decide) rfl ?_
          refine v_ireturn1 xB_113 dX10_isKindOrUnder_39 xK_113 (by decide) ?_
          first | exact o1 (by first | omega | (simp only [sA_same, sA_s, ud_s, Int.reduceEq, if_true, if_false, ite_true, ite_false, ↓reduceIte, and_true, true_and, eq_self, Int.add_zero, Int.reduceAdd]; omega) | (simp (disch := omega) only [sA_same, sA_ne, ud_eq, ud_ne, Int.add_zero, Int.reduceAdd]; omega)) | exact o2 (by first | omega | (simp only [sA_same, sA_s, ud_s, Int.reduceEq, if_true, if_false, ite_true, ite_false, ↓reduceIte, and_true, true_and, eq_self, Int.add_zero, Int.reduceAdd]; omega) | (simp (disch := omega) only [sA_same, sA_ne, ud_eq, ud_ne, Int.add_zero, Int.reduceAdd]; omega))
      · refine v_gst_0 (n := 20) xB_113 dX10_isKindOrUnder_17 xO_113 gs_10_291 rfl ?_
        refine v_iload_n (n := 21) xB_113 dX10_isKindOrUnder_20 rfl rfl ?_
        refine v_iaload (n := 22) (lz := 7) xB_113 dX10_isKindOrUnder_21 (sh_ka _ _ _) rfl (by first | omega | (simp only [sA_same, sA_s, ud_s, Int.reduceEq, if_true, if_false, ite_true, ite_false, ↓reduceIte, and_true, true_and, eq_self, Int.add_zero, Int.reduceAdd]; omega) | (simp (disch := omega) only [sA_same, sA_ne, ud_eq, ud_ne, Int.add_zero, Int.reduceAdd]; omega)) rfl ?_
        (try simp only [K0, K1, K2, K3, K4, K5, K6])
        refine v_istore_n2 (n := 23) xB_113 dX10_isKindOrUnder_22 rfl rfl ?_
        refine v_iinc3 (n := 26) xB_113 dX10_isKindOrUnder_23 rfl (by first | omega | (simp only [sA_same, sA_s, ud_s, Int.reduceEq, if_true, if_false, ite_true, ite_false, ↓reduceIte, and_true, true_and, eq_self, Int.add_zero, Int.reduceAdd]; omega) | (simp (disch := omega) only [sA_same, sA_ne, ud_eq, ud_ne, Int.add_zero, Int.reduceAdd]; omega)) rfl ?_
        refine v_goto (t := 4) xB_113 dX10_isKindOrUnder_26 (by decide) rfl ?_
        refine v_iload_n (n := 5) xB_113 dX10_isKindOrUnder_4 rfl rfl ?_
        refine v_gst_0 (n := 8) xB_113 dX10_isKindOrUnder_5 xO_113 gs_10_291 rfl ?_
        refine v_alen (n := 9) (lz := 7) xB_113 dX10_isKindOrUnder_8 (sh_ka _ _ _) (by decide) rfl rfl ?_
        refine v_ic_ge_n (n := 12) xB_113 dX10_isKindOrUnder_9 (by decide) rfl (by decide) ?_
        refine v_iload_n (n := 13) xB_113 dX10_isKindOrUnder_12 rfl rfl ?_
        refine v_iload_n (n := 14) xB_113 dX10_isKindOrUnder_13 rfl rfl ?_
        refine v_ic_le (t := 29) (n := 17) xB_113 dX10_isKindOrUnder_14 (by decide) rfl rfl (fun g5 => ?_) (fun g5 => ?_)
        · refine v_iload_n (n := 30) xB_113 dX10_isKindOrUnder_29 rfl rfl ?_
          refine v_iload_n (n := 31) xB_113 dX10_isKindOrUnder_30 rfl rfl ?_
          refine v_ic_ne (t := 38) (n := 34) xB_113 dX10_isKindOrUnder_31 (by decide) rfl rfl (fun g6 => ?_) (fun g6 => ?_)
          · refine v_iconst (n := 39) xB_113 dX10_isKindOrUnder_38 ⟨by decide, by decide⟩ rfl ?_
            refine v_ireturn1 xB_113 dX10_isKindOrUnder_39 xK_113 (by decide) ?_
            first | exact o1 (by first | omega | (simp only [sA_same, sA_s, ud_s, Int.reduceEq, if_true, if_false, ite_true, ite_false, ↓reduceIte, and_true, true_and, eq_self, Int.add_zero, Int.reduceAdd]; omega) | (simp (disch := omega) only [sA_same, sA_ne, ud_eq, ud_ne, Int.add_zero, Int.reduceAdd]; omega)) | exact o2 (by first | omega | (simp only [sA_same, sA_s, ud_s, Int.reduceEq, if_true, if_false, ite_true, ite_false, ↓reduceIte, and_true, true_and, eq_self, Int.add_zero, Int.reduceAdd]; omega) | (simp (disch := omega) only [sA_same, sA_ne, ud_eq, ud_ne, Int.add_zero, Int.reduceAdd]; omega))
          · refine v_iconst (n := 35) xB_113 dX10_isKindOrUnder_34 ⟨by decide, by decide⟩ rfl ?_
            refine v_goto (t := 39) xB_113 dX10_isKindOrUnder_35 (by decide) rfl ?_
            refine v_ireturn1 xB_113 dX10_isKindOrUnder_39 xK_113 (by decide) ?_
            first | exact o1 (by first | omega | (simp only [sA_same, sA_s, ud_s, Int.reduceEq, if_true, if_false, ite_true, ite_false, ↓reduceIte, and_true, true_and, eq_self, Int.add_zero, Int.reduceAdd]; omega) | (simp (disch := omega) only [sA_same, sA_ne, ud_eq, ud_ne, Int.add_zero, Int.reduceAdd]; omega)) | exact o2 (by first | omega | (simp only [sA_same, sA_s, ud_s, Int.reduceEq, if_true, if_false, ite_true, ite_false, ↓reduceIte, and_true, true_and, eq_self, Int.add_zero, Int.reduceAdd]; omega) | (simp (disch := omega) only [sA_same, sA_ne, ud_eq, ud_ne, Int.add_zero, Int.reduceAdd]; omega))
        · refine v_gst_0 (n := 20) xB_113 dX10_isKindOrUnder_17 xO_113 gs_10_291 rfl ?_
          refine v_iload_n (n := 21) xB_113 dX10_isKindOrUnder_20 rfl rfl ?_
          refine v_iaload (n := 22) (lz := 7) xB_113 dX10_isKindOrUnder_21 (sh_ka _ _ _) rfl (by first | omega | (simp only [sA_same, sA_s, ud_s, Int.reduceEq, if_true, if_false, ite_true, ite_false, ↓reduceIte, and_true, true_and, eq_self, Int.add_zero, Int.reduceAdd]; omega) | (simp (disch := omega) only [sA_same, sA_ne, ud_eq, ud_ne, Int.add_zero, Int.reduceAdd]; omega)) rfl ?_
          (try simp only [K0, K1, K2, K3, K4, K5, K6])
          refine v_istore_n2 (n := 23) xB_113 dX10_isKindOrUnder_22 rfl rfl ?_
          refine v_iinc3 (n := 26) xB_113 dX10_isKindOrUnder_23 rfl (by first | omega | (simp only [sA_same, sA_s, ud_s, Int.reduceEq, if_true, if_false, ite_true, ite_false, ↓reduceIte, and_true, true_and, eq_self, Int.add_zero, Int.reduceAdd]; omega) | (simp (disch := omega) only [sA_same, sA_ne, ud_eq, ud_ne, Int.add_zero, Int.reduceAdd]; omega)) rfl ?_
          refine v_goto (t := 4) xB_113 dX10_isKindOrUnder_26 (by decide) rfl ?_
          refine v_iload_n (n := 5) xB_113 dX10_isKindOrUnder_4 rfl rfl ?_
          refine v_gst_0 (n := 8) xB_113 dX10_isKindOrUnder_5 xO_113 gs_10_291 rfl ?_
          refine v_alen (n := 9) (lz := 7) xB_113 dX10_isKindOrUnder_8 (sh_ka _ _ _) (by decide) rfl rfl ?_
          refine v_ic_ge_n (n := 12) xB_113 dX10_isKindOrUnder_9 (by decide) rfl (by decide) ?_
          refine v_iload_n (n := 13) xB_113 dX10_isKindOrUnder_12 rfl rfl ?_
          refine v_iload_n (n := 14) xB_113 dX10_isKindOrUnder_13 rfl rfl ?_
          refine v_ic_le (t := 29) (n := 17) xB_113 dX10_isKindOrUnder_14 (by decide) rfl rfl (fun g7 => ?_) (fun g7 => ?_)
          · refine v_iload_n (n := 30) xB_113 dX10_isKindOrUnder_29 rfl rfl ?_
            refine v_iload_n (n := 31) xB_113 dX10_isKindOrUnder_30 rfl rfl ?_
            refine v_ic_ne (t := 38) (n := 34) xB_113 dX10_isKindOrUnder_31 (by decide) rfl rfl (fun g8 => ?_) (fun g8 => ?_)
            · refine v_iconst (n := 39) xB_113 dX10_isKindOrUnder_38 ⟨by decide, by decide⟩ rfl ?_
              refine v_ireturn1 xB_113 dX10_isKindOrUnder_39 xK_113 (by decide) ?_
              first | exact o1 (by first | omega | (simp only [sA_same, sA_s, ud_s, Int.reduceEq, if_true, if_false, ite_true, ite_false, ↓reduceIte, and_true, true_and, eq_self, Int.add_zero, Int.reduceAdd]; omega) | (simp (disch := omega) only [sA_same, sA_ne, ud_eq, ud_ne, Int.add_zero, Int.reduceAdd]; omega)) | exact o2 (by first | omega | (simp only [sA_same, sA_s, ud_s, Int.reduceEq, if_true, if_false, ite_true, ite_false, ↓reduceIte, and_true, true_and, eq_self, Int.add_zero, Int.reduceAdd]; omega) | (simp (disch := omega) only [sA_same, sA_ne, ud_eq, ud_ne, Int.add_zero, Int.reduceAdd]; omega))
            · refine v_iconst (n := 35) xB_113 dX10_isKindOrUnder_34 ⟨by decide, by decide⟩ rfl ?_
              refine v_goto (t := 39) xB_113 dX10_isKindOrUnder_35 (by decide) rfl ?_
              refine v_ireturn1 xB_113 dX10_isKindOrUnder_39 xK_113 (by decide) ?_
              first | exact o1 (by first | omega | (simp only [sA_same, sA_s, ud_s, Int.reduceEq, if_true, if_false, ite_true, ite_false, ↓reduceIte, and_true, true_and, eq_self, Int.add_zero, Int.reduceAdd]; omega) | (simp (disch := omega) only [sA_same, sA_ne, ud_eq, ud_ne, Int.add_zero, Int.reduceAdd]; omega)) | exact o2 (by first | omega | (simp only [sA_same, sA_s, ud_s, Int.reduceEq, if_true, if_false, ite_true, ite_false, ↓reduceIte, and_true, true_and, eq_self, Int.add_zero, Int.reduceAdd]; omega) | (simp (disch := omega) only [sA_same, sA_ne, ud_eq, ud_ne, Int.add_zero, Int.reduceAdd]; omega))
          · refine v_gst_0 (n := 20) xB_113 dX10_isKindOrUnder_17 xO_113 gs_10_291 rfl ?_
            refine v_iload_n (n := 21) xB_113 dX10_isKindOrUnder_20 rfl rfl ?_
            refine v_iaload (n := 22) (lz := 7) xB_113 dX10_isKindOrUnder_21 (sh_ka _ _ _) rfl (by first | omega | (simp only [sA_same, sA_s, ud_s, Int.reduceEq, if_true, if_false, ite_true, ite_false, ↓reduceIte, and_true, true_and, eq_self, Int.add_zero, Int.reduceAdd]; omega) | (simp (disch := omega) only [sA_same, sA_ne, ud_eq, ud_ne, Int.add_zero, Int.reduceAdd]; omega)) rfl ?_
            (try simp only [K0, K1, K2, K3, K4, K5, K6])
            refine v_istore_n2 (n := 23) xB_113 dX10_isKindOrUnder_22 rfl rfl ?_
            refine v_iinc3 (n := 26) xB_113 dX10_isKindOrUnder_23 rfl (by first | omega | (simp only [sA_same, sA_s, ud_s, Int.reduceEq, if_true, if_false, ite_true, ite_false, ↓reduceIte, and_true, true_and, eq_self, Int.add_zero, Int.reduceAdd]; omega) | (simp (disch := omega) only [sA_same, sA_ne, ud_eq, ud_ne, Int.add_zero, Int.reduceAdd]; omega)) rfl ?_
            refine v_goto (t := 4) xB_113 dX10_isKindOrUnder_26 (by decide) rfl ?_
            refine v_iload_n (n := 5) xB_113 dX10_isKindOrUnder_4 rfl rfl ?_
            refine v_gst_0 (n := 8) xB_113 dX10_isKindOrUnder_5 xO_113 gs_10_291 rfl ?_
            refine v_alen (n := 9) (lz := 7) xB_113 dX10_isKindOrUnder_8 (sh_ka _ _ _) (by decide) rfl rfl ?_
            refine v_ic_ge_n (n := 12) xB_113 dX10_isKindOrUnder_9 (by decide) rfl (by decide) ?_
            refine v_iload_n (n := 13) xB_113 dX10_isKindOrUnder_12 rfl rfl ?_
            refine v_iload_n (n := 14) xB_113 dX10_isKindOrUnder_13 rfl rfl ?_
            refine v_ic_le (t := 29) (n := 17) xB_113 dX10_isKindOrUnder_14 (by decide) rfl rfl (fun g9 => ?_) (fun g9 => ?_)
            · refine v_iload_n (n := 30) xB_113 dX10_isKindOrUnder_29 rfl rfl ?_
              refine v_iload_n (n := 31) xB_113 dX10_isKindOrUnder_30 rfl rfl ?_
              refine v_ic_ne (t := 38) (n := 34) xB_113 dX10_isKindOrUnder_31 (by decide) rfl rfl (fun g10 => ?_) (fun g10 => ?_)
              · refine v_iconst (n := 39) xB_113 dX10_isKindOrUnder_38 ⟨by decide, by decide⟩ rfl ?_
                refine v_ireturn1 xB_113 dX10_isKindOrUnder_39 xK_113 (by decide) ?_
                first | exact o1 (by first | omega | (simp only [sA_same, sA_s, ud_s, Int.reduceEq, if_true, if_false, ite_true, ite_false, ↓reduceIte, and_true, true_and, eq_self, Int.add_zero, Int.reduceAdd]; omega) | (simp (disch := omega) only [sA_same, sA_ne, ud_eq, ud_ne, Int.add_zero, Int.reduceAdd]; omega)) | exact o2 (by first | omega | (simp only [sA_same, sA_s, ud_s, Int.reduceEq, if_true, if_false, ite_true, ite_false, ↓reduceIte, and_true, true_and, eq_self, Int.add_zero, Int.reduceAdd]; omega) | (simp (disch := omega) only [sA_same, sA_ne, ud_eq, ud_ne, Int.add_zero, Int.reduceAdd]; omega))
              · refine v_iconst (n := 35) xB_113 dX10_isKindOrUnder_34 ⟨by decide, by decide⟩ rfl ?_
                refine v_goto (t := 39) xB_113 dX10_isKindOrUnder_35 (by decide) rfl ?_
                refine v_ireturn1 xB_113 dX10_isKindOrUnder_39 xK_113 (by decide) ?_
                first | exact o1 (by first | omega | (simp only [sA_same, sA_s, ud_s, Int.reduceEq, if_true, if_false, ite_true, ite_false, ↓reduceIte, and_true, true_and, eq_self, Int.add_zero, Int.reduceAdd]; omega) | (simp (disch := omega) only [sA_same, sA_ne, ud_eq, ud_ne, Int.add_zero, Int.reduceAdd]; omega)) | exact o2 (by first | omega | (simp only [sA_same, sA_s, ud_s, Int.reduceEq, if_true, if_false, ite_true, ite_false, ↓reduceIte, and_true, true_and, eq_self, Int.add_zero, Int.reduceAdd]; omega) | (simp (disch := omega) only [sA_same, sA_ne, ud_eq, ud_ne, Int.add_zero, Int.reduceAdd]; omega))
            · refine v_gst_0 (n := 20) xB_113 dX10_isKindOrUnder_17 xO_113 gs_10_291 rfl ?_
              refine v_iload_n (n := 21) xB_113 dX10_isKindOrUnder_20 rfl rfl ?_
              refine v_iaload (n := 22) (lz := 7) xB_113 dX10_isKindOrUnder_21 (sh_ka _ _ _) rfl (by first | omega | (simp only [sA_same, sA_s, ud_s, Int.reduceEq, if_true, if_false, ite_true, ite_false, ↓reduceIte, and_true, true_and, eq_self, Int.add_zero, Int.reduceAdd]; omega) | (simp (disch := omega) only [sA_same, sA_ne, ud_eq, ud_ne, Int.add_zero, Int.reduceAdd]; omega)) rfl ?_
              (try simp only [K0, K1, K2, K3, K4, K5, K6])
              refine v_istore_n2 (n := 23) xB_113 dX10_isKindOrUnder_22 rfl rfl ?_
              refine v_iinc3 (n := 26) xB_113 dX10_isKindOrUnder_23 rfl (by first | omega | (simp only [sA_same, sA_s, ud_s, Int.reduceEq, if_true, if_false, ite_true, ite_false, ↓reduceIte, and_true, true_and, eq_self, Int.add_zero, Int.reduceAdd]; omega) | (simp (disch := omega) only [sA_same, sA_ne, ud_eq, ud_ne, Int.add_zero, Int.reduceAdd]; omega)) rfl ?_
              refine v_goto (t := 4) xB_113 dX10_isKindOrUnder_26 (by decide) rfl ?_
              refine v_iload_n (n := 5) xB_113 dX10_isKindOrUnder_4 rfl rfl ?_
              refine v_gst_0 (n := 8) xB_113 dX10_isKindOrUnder_5 xO_113 gs_10_291 rfl ?_
              refine v_alen (n := 9) (lz := 7) xB_113 dX10_isKindOrUnder_8 (sh_ka _ _ _) (by decide) rfl rfl ?_
              refine v_ic_ge_n (n := 12) xB_113 dX10_isKindOrUnder_9 (by decide) rfl (by decide) ?_
              refine v_iload_n (n := 13) xB_113 dX10_isKindOrUnder_12 rfl rfl ?_
              refine v_iload_n (n := 14) xB_113 dX10_isKindOrUnder_13 rfl rfl ?_
              refine v_ic_le (t := 29) (n := 17) xB_113 dX10_isKindOrUnder_14 (by decide) rfl rfl (fun g11 => ?_) (fun g11 => ?_)
              · refine v_iload_n (n := 30) xB_113 dX10_isKindOrUnder_29 rfl rfl ?_
                refine v_iload_n (n := 31) xB_113 dX10_isKindOrUnder_30 rfl rfl ?_
                refine v_ic_ne (t := 38) (n := 34) xB_113 dX10_isKindOrUnder_31 (by decide) rfl rfl (fun g12 => ?_) (fun g12 => ?_)
                · refine v_iconst (n := 39) xB_113 dX10_isKindOrUnder_38 ⟨by decide, by decide⟩ rfl ?_
                  refine v_ireturn1 xB_113 dX10_isKindOrUnder_39 xK_113 (by decide) ?_
                  first | exact o1 (by first | omega | (simp only [sA_same, sA_s, ud_s, Int.reduceEq, if_true, if_false, ite_true, ite_false, ↓reduceIte, and_true, true_and, eq_self, Int.add_zero, Int.reduceAdd]; omega) | (simp (disch := omega) only [sA_same, sA_ne, ud_eq, ud_ne, Int.add_zero, Int.reduceAdd]; omega)) | exact o2 (by first | omega | (simp only [sA_same, sA_s, ud_s, Int.reduceEq, if_true, if_false, ite_true, ite_false, ↓reduceIte, and_true, true_and, eq_self, Int.add_zero, Int.reduceAdd]; omega) | (simp (disch := omega) only [sA_same, sA_ne, ud_eq, ud_ne, Int.add_zero, Int.reduceAdd]; omega))
                · refine v_iconst (n := 35) xB_113 dX10_isKindOrUnder_34 ⟨by decide, by decide⟩ rfl ?_
                  refine v_goto (t := 39) xB_113 dX10_isKindOrUnder_35 (by decide) rfl ?_
                  refine v_ireturn1 xB_113 dX10_isKindOrUnder_39 xK_113 (by decide) ?_
                  first | exact o1 (by first | omega | (simp only [sA_same, sA_s, ud_s, Int.reduceEq, if_true, if_false, ite_true, ite_false, ↓reduceIte, and_true, true_and, eq_self, Int.add_zero, Int.reduceAdd]; omega) | (simp (disch := omega) only [sA_same, sA_ne, ud_eq, ud_ne, Int.add_zero, Int.reduceAdd]; omega)) | exact o2 (by first | omega | (simp only [sA_same, sA_s, ud_s, Int.reduceEq, if_true, if_false, ite_true, ite_false, ↓reduceIte, and_true, true_and, eq_self, Int.add_zero, Int.reduceAdd]; omega) | (simp (disch := omega) only [sA_same, sA_ne, ud_eq, ud_ne, Int.add_zero, Int.reduceAdd]; omega))
              · refine v_gst_0 (n := 20) xB_113 dX10_isKindOrUnder_17 xO_113 gs_10_291 rfl ?_
                refine v_iload_n (n := 21) xB_113 dX10_isKindOrUnder_20 rfl rfl ?_
                refine v_iaload (n := 22) (lz := 7) xB_113 dX10_isKindOrUnder_21 (sh_ka _ _ _) rfl (by first | omega | (simp only [sA_same, sA_s, ud_s, Int.reduceEq, if_true, if_false, ite_true, ite_false, ↓reduceIte, and_true, true_and, eq_self, Int.add_zero, Int.reduceAdd]; omega) | (simp (disch := omega) only [sA_same, sA_ne, ud_eq, ud_ne, Int.add_zero, Int.reduceAdd]; omega)) rfl ?_
                (try simp only [K0, K1, K2, K3, K4, K5, K6])
                refine v_istore_n2 (n := 23) xB_113 dX10_isKindOrUnder_22 rfl rfl ?_
                refine v_iinc3 (n := 26) xB_113 dX10_isKindOrUnder_23 rfl (by first | omega | (simp only [sA_same, sA_s, ud_s, Int.reduceEq, if_true, if_false, ite_true, ite_false, ↓reduceIte, and_true, true_and, eq_self, Int.add_zero, Int.reduceAdd]; omega) | (simp (disch := omega) only [sA_same, sA_ne, ud_eq, ud_ne, Int.add_zero, Int.reduceAdd]; omega)) rfl ?_
                refine v_goto (t := 4) xB_113 dX10_isKindOrUnder_26 (by decide) rfl ?_
                refine v_iload_n (n := 5) xB_113 dX10_isKindOrUnder_4 rfl rfl ?_
                refine v_gst_0 (n := 8) xB_113 dX10_isKindOrUnder_5 xO_113 gs_10_291 rfl ?_
                refine v_alen (n := 9) (lz := 7) xB_113 dX10_isKindOrUnder_8 (sh_ka _ _ _) (by decide) rfl rfl ?_
                refine v_ic_ge_n (n := 12) xB_113 dX10_isKindOrUnder_9 (by decide) rfl (by decide) ?_
                refine v_iload_n (n := 13) xB_113 dX10_isKindOrUnder_12 rfl rfl ?_
                refine v_iload_n (n := 14) xB_113 dX10_isKindOrUnder_13 rfl rfl ?_
                refine v_ic_le (t := 29) (n := 17) xB_113 dX10_isKindOrUnder_14 (by decide) rfl rfl (fun g13 => ?_) (fun g13 => ?_)
                · refine v_iload_n (n := 30) xB_113 dX10_isKindOrUnder_29 rfl rfl ?_
                  refine v_iload_n (n := 31) xB_113 dX10_isKindOrUnder_30 rfl rfl ?_
                  refine v_ic_ne (t := 38) (n := 34) xB_113 dX10_isKindOrUnder_31 (by decide) rfl rfl (fun g14 => ?_) (fun g14 => ?_)
                  · refine v_iconst (n := 39) xB_113 dX10_isKindOrUnder_38 ⟨by decide, by decide⟩ rfl ?_
                    refine v_ireturn1 xB_113 dX10_isKindOrUnder_39 xK_113 (by decide) ?_
                    first | exact o1 (by first | omega | (simp only [sA_same, sA_s, ud_s, Int.reduceEq, if_true, if_false, ite_true, ite_false, ↓reduceIte, and_true, true_and, eq_self, Int.add_zero, Int.reduceAdd]; omega) | (simp (disch := omega) only [sA_same, sA_ne, ud_eq, ud_ne, Int.add_zero, Int.reduceAdd]; omega)) | exact o2 (by first | omega | (simp only [sA_same, sA_s, ud_s, Int.reduceEq, if_true, if_false, ite_true, ite_false, ↓reduceIte, and_true, true_and, eq_self, Int.add_zero, Int.reduceAdd]; omega) | (simp (disch := omega) only [sA_same, sA_ne, ud_eq, ud_ne, Int.add_zero, Int.reduceAdd]; omega))
                  · refine v_iconst (n := 35) xB_113 dX10_isKindOrUnder_34 ⟨by decide, by decide⟩ rfl ?_
                    refine v_goto (t := 39) xB_113 dX10_isKindOrUnder_35 (by decide) rfl ?_
                    refine v_ireturn1 xB_113 dX10_isKindOrUnder_39 xK_113 (by decide) ?_
                    first | exact o1 (by first | omega | (simp only [sA_same, sA_s, ud_s, Int.reduceEq, if_true, if_false, ite_true, ite_false, ↓reduceIte, and_true, true_and, eq_self, Int.add_zero, Int.reduceAdd]; omega) | (simp (disch := omega) only [sA_same, sA_ne, ud_eq, ud_ne, Int.add_zero, Int.reduceAdd]; omega)) | exact o2 (by first | omega | (simp only [sA_same, sA_s, ud_s, Int.reduceEq, if_true, if_false, ite_true, ite_false, ↓reduceIte, and_true, true_and, eq_self, Int.add_zero, Int.reduceAdd]; omega) | (simp (disch := omega) only [sA_same, sA_ne, ud_eq, ud_ne, Int.add_zero, Int.reduceAdd]; omega))
                · refine v_gst_0 (n := 20) xB_113 dX10_isKindOrUnder_17 xO_113 gs_10_291 rfl ?_
                  refine v_iload_n (n := 21) xB_113 dX10_isKindOrUnder_20 rfl rfl ?_
                  refine v_iaload (n := 22) (lz := 7) xB_113 dX10_isKindOrUnder_21 (sh_ka _ _ _) rfl (by first | omega | (simp only [sA_same, sA_s, ud_s, Int.reduceEq, if_true, if_false, ite_true, ite_false, ↓reduceIte, and_true, true_and, eq_self, Int.add_zero, Int.reduceAdd]; omega) | (simp (disch := omega) only [sA_same, sA_ne, ud_eq, ud_ne, Int.add_zero, Int.reduceAdd]; omega)) rfl ?_
                  (try simp only [K0, K1, K2, K3, K4, K5, K6])
                  refine v_istore_n2 (n := 23) xB_113 dX10_isKindOrUnder_22 rfl rfl ?_
                  refine v_iinc3 (n := 26) xB_113 dX10_isKindOrUnder_23 rfl (by first | omega | (simp only [sA_same, sA_s, ud_s, Int.reduceEq, if_true, if_false, ite_true, ite_false, ↓reduceIte, and_true, true_and, eq_self, Int.add_zero, Int.reduceAdd]; omega) | (simp (disch := omega) only [sA_same, sA_ne, ud_eq, ud_ne, Int.add_zero, Int.reduceAdd]; omega)) rfl ?_
                  refine v_goto (t := 4) xB_113 dX10_isKindOrUnder_26 (by decide) rfl ?_
                  refine v_iload_n (n := 5) xB_113 dX10_isKindOrUnder_4 rfl rfl ?_
                  refine v_gst_0 (n := 8) xB_113 dX10_isKindOrUnder_5 xO_113 gs_10_291 rfl ?_
                  refine v_alen (n := 9) (lz := 7) xB_113 dX10_isKindOrUnder_8 (sh_ka _ _ _) (by decide) rfl rfl ?_
                  refine v_ic_ge_y (t := 29) xB_113 dX10_isKindOrUnder_9 (by decide) rfl (by decide) ?_
                  refine v_iload_n (n := 30) xB_113 dX10_isKindOrUnder_29 rfl rfl ?_
                  refine v_iload_n (n := 31) xB_113 dX10_isKindOrUnder_30 rfl rfl ?_
                  refine v_ic_ne (t := 38) (n := 34) xB_113 dX10_isKindOrUnder_31 (by decide) rfl rfl (fun g15 => ?_) (fun g15 => ?_)
                  · refine v_iconst (n := 39) xB_113 dX10_isKindOrUnder_38 ⟨by decide, by decide⟩ rfl ?_
                    refine v_ireturn1 xB_113 dX10_isKindOrUnder_39 xK_113 (by decide) ?_
                    first | exact o1 (by first | omega | (simp only [sA_same, sA_s, ud_s, Int.reduceEq, if_true, if_false, ite_true, ite_false, ↓reduceIte, and_true, true_and, eq_self, Int.add_zero, Int.reduceAdd]; omega) | (simp (disch := omega) only [sA_same, sA_ne, ud_eq, ud_ne, Int.add_zero, Int.reduceAdd]; omega)) | exact o2 (by first | omega | (simp only [sA_same, sA_s, ud_s, Int.reduceEq, if_true, if_false, ite_true, ite_false, ↓reduceIte, and_true, true_and, eq_self, Int.add_zero, Int.reduceAdd]; omega) | (simp (disch := omega) only [sA_same, sA_ne, ud_eq, ud_ne, Int.add_zero, Int.reduceAdd]; omega))
                  · refine v_iconst (n := 35) xB_113 dX10_isKindOrUnder_34 ⟨by decide, by decide⟩ rfl ?_
                    refine v_goto (t := 39) xB_113 dX10_isKindOrUnder_35 (by decide) rfl ?_
                    refine v_ireturn1 xB_113 dX10_isKindOrUnder_39 xK_113 (by decide) ?_
                    first | exact o1 (by first | omega | (simp only [sA_same, sA_s, ud_s, Int.reduceEq, if_true, if_false, ite_true, ite_false, ↓reduceIte, and_true, true_and, eq_self, Int.add_zero, Int.reduceAdd]; omega) | (simp (disch := omega) only [sA_same, sA_ne, ud_eq, ud_ne, Int.add_zero, Int.reduceAdd]; omega)) | exact o2 (by first | omega | (simp only [sA_same, sA_s, ud_s, Int.reduceEq, if_true, if_false, ite_true, ite_false, ↓reduceIte, and_true, true_and, eq_self, Int.add_zero, Int.reduceAdd]; omega) | (simp (disch := omega) only [sA_same, sA_ne, ud_eq, ud_ne, Int.add_zero, Int.reduceAdd]; omega))
  · subst hx
    refine v_iload_n (n := 1) xB_113 dX10_isKindOrUnder_0 rfl rfl ?_
    refine v_istore_n2 (n := 2) xB_113 dX10_isKindOrUnder_1 rfl rfl ?_
    refine v_iconst (n := 3) xB_113 dX10_isKindOrUnder_2 ⟨by decide, by decide⟩ rfl ?_
    refine v_istore_n3 (n := 4) xB_113 dX10_isKindOrUnder_3 rfl rfl ?_
    refine v_iload_n (n := 5) xB_113 dX10_isKindOrUnder_4 rfl rfl ?_
    refine v_gst_0 (n := 8) xB_113 dX10_isKindOrUnder_5 xO_113 gs_10_291 rfl ?_
    refine v_alen (n := 9) (lz := 7) xB_113 dX10_isKindOrUnder_8 (sh_ka _ _ _) (by decide) rfl rfl ?_
    refine v_ic_ge_n (n := 12) xB_113 dX10_isKindOrUnder_9 (by decide) rfl (by decide) ?_
    refine v_iload_n (n := 13) xB_113 dX10_isKindOrUnder_12 rfl rfl ?_
    refine v_iload_n (n := 14) xB_113 dX10_isKindOrUnder_13 rfl rfl ?_
    refine v_ic_le (t := 29) (n := 17) xB_113 dX10_isKindOrUnder_14 (by decide) rfl rfl (fun g1 => ?_) (fun g1 => ?_)
    · refine v_iload_n (n := 30) xB_113 dX10_isKindOrUnder_29 rfl rfl ?_
      refine v_iload_n (n := 31) xB_113 dX10_isKindOrUnder_30 rfl rfl ?_
      refine v_ic_ne (t := 38) (n := 34) xB_113 dX10_isKindOrUnder_31 (by decide) rfl rfl (fun g2 => ?_) (fun g2 => ?_)
      · refine v_iconst (n := 39) xB_113 dX10_isKindOrUnder_38 ⟨by decide, by decide⟩ rfl ?_
        refine v_ireturn1 xB_113 dX10_isKindOrUnder_39 xK_113 (by decide) ?_
        first | exact o1 (by first | omega | (simp only [sA_same, sA_s, ud_s, Int.reduceEq, if_true, if_false, ite_true, ite_false, ↓reduceIte, and_true, true_and, eq_self, Int.add_zero, Int.reduceAdd]; omega) | (simp (disch := omega) only [sA_same, sA_ne, ud_eq, ud_ne, Int.add_zero, Int.reduceAdd]; omega)) | exact o2 (by first | omega | (simp only [sA_same, sA_s, ud_s, Int.reduceEq, if_true, if_false, ite_true, ite_false, ↓reduceIte, and_true, true_and, eq_self, Int.add_zero, Int.reduceAdd]; omega) | (simp (disch := omega) only [sA_same, sA_ne, ud_eq, ud_ne, Int.add_zero, Int.reduceAdd]; omega))
      · refine v_iconst (n := 35) xB_113 dX10_isKindOrUnder_34 ⟨by decide, by decide⟩ rfl ?_
        refine v_goto (t := 39) xB_113 dX10_isKindOrUnder_35 (by decide) rfl ?_
        refine v_ireturn1 xB_113 dX10_isKindOrUnder_39 xK_113 (by decide) ?_
        first | exact o1 (by first | omega | (simp only [sA_same, sA_s, ud_s, Int.reduceEq, if_true, if_false, ite_true, ite_false, ↓reduceIte, and_true, true_and, eq_self, Int.add_zero, Int.reduceAdd]; omega) | (simp (disch := omega) only [sA_same, sA_ne, ud_eq, ud_ne, Int.add_zero, Int.reduceAdd]; omega)) | exact o2 (by first | omega | (simp only [sA_same, sA_s, ud_s, Int.reduceEq, if_true, if_false, ite_true, ite_false, ↓reduceIte, and_true, true_and, eq_self, Int.add_zero, Int.reduceAdd]; omega) | (simp (disch := omega) only [sA_same, sA_ne, ud_eq, ud_ne, Int.add_zero, Int.reduceAdd]; omega))
    · refine v_gst_0 (n := 20) xB_113 dX10_isKindOrUnder_17 xO_113 gs_10_291 rfl ?_
      refine v_iload_n (n := 21) xB_113 dX10_isKindOrUnder_20 rfl rfl ?_
      refine v_iaload (n := 22) (lz := 7) xB_113 dX10_isKindOrUnder_21 (sh_ka _ _ _) rfl (by first | omega | (simp only [sA_same, sA_s, ud_s, Int.reduceEq, if_true, if_false, ite_true, ite_false, ↓reduceIte, and_true, true_and, eq_self, Int.add_zero, Int.reduceAdd]; omega) | (simp (disch := omega) only [sA_same, sA_ne, ud_eq, ud_ne, Int.add_zero, Int.reduceAdd]; omega)) rfl ?_
      (try simp only [K0, K1, K2, K3, K4, K5, K6])
      refine v_istore_n2 (n := 23) xB_113 dX10_isKindOrUnder_22 rfl rfl ?_
      refine v_iinc3 (n := 26) xB_113 dX10_isKindOrUnder_23 rfl (by first | omega | (simp only [sA_same, sA_s, ud_s, Int.reduceEq, if_true, if_false, ite_true, ite_false, ↓reduceIte, and_true, true_and, eq_self, Int.add_zero, Int.reduceAdd]; omega) | (simp (disch := omega) only [sA_same, sA_ne, ud_eq, ud_ne, Int.add_zero, Int.reduceAdd]; omega)) rfl ?_
      refine v_goto (t := 4) xB_113 dX10_isKindOrUnder_26 (by decide) rfl ?_
      refine v_iload_n (n := 5) xB_113 dX10_isKindOrUnder_4 rfl rfl ?_
      refine v_gst_0 (n := 8) xB_113 dX10_isKindOrUnder_5 xO_113 gs_10_291 rfl ?_
      refine v_alen (n := 9) (lz := 7) xB_113 dX10_isKindOrUnder_8 (sh_ka _ _ _) (by decide) rfl rfl ?_
      refine v_ic_ge_n (n := 12) xB_113 dX10_isKindOrUnder_9 (by decide) rfl (by decide) ?_
      refine v_iload_n (n := 13) xB_113 dX10_isKindOrUnder_12 rfl rfl ?_
      refine v_iload_n (n := 14) xB_113 dX10_isKindOrUnder_13 rfl rfl ?_
      refine v_ic_le (t := 29) (n := 17) xB_113 dX10_isKindOrUnder_14 (by decide) rfl rfl (fun g3 => ?_) (fun g3 => ?_)
      · refine v_iload_n (n := 30) xB_113 dX10_isKindOrUnder_29 rfl rfl ?_
        refine v_iload_n (n := 31) xB_113 dX10_isKindOrUnder_30 rfl rfl ?_
        refine v_ic_ne (t := 38) (n := 34) xB_113 dX10_isKindOrUnder_31 (by decide) rfl rfl (fun g4 => ?_) (fun g4 => ?_)
        · refine v_iconst (n := 39) xB_113 dX10_isKindOrUnder_38 ⟨by decide, by decide⟩ rfl ?_
          refine v_ireturn1 xB_113 dX10_isKindOrUnder_39 xK_113 (by decide) ?_
          first | exact o1 (by first | omega | (simp only [sA_same, sA_s, ud_s, Int.reduceEq, if_true, if_false, ite_true, ite_false, ↓reduceIte, and_true, true_and, eq_self, Int.add_zero, Int.reduceAdd]; omega) | (simp (disch := omega) only [sA_same, sA_ne, ud_eq, ud_ne, Int.add_zero, Int.reduceAdd]; omega)) | exact o2 (by first | omega | (simp only [sA_same, sA_s, ud_s, Int.reduceEq, if_true, if_false, ite_true, ite_false, ↓reduceIte, and_true, true_and, eq_self, Int.add_zero, Int.reduceAdd]; omega) | (simp (disch := omega) only [sA_same, sA_ne, ud_eq, ud_ne, Int.add_zero, Int.reduceAdd]; omega))
        · refine v_iconst (n := 35) xB_113 dX10_isKindOrUnder_34 ⟨by decide, by decide⟩ rfl ?_
          refine v_goto (t := 39) xB_113 dX10_isKindOrUnder_35 (by decide) rfl ?_
          refine v_ireturn1 xB_113 dX10_isKindOrUnder_39 xK_113 (by decide) ?_
          first | exact o1 (by first | omega | (simp only [sA_same, sA_s, ud_s, Int.reduceEq, if_true, if_false, ite_true, ite_false, ↓reduceIte, and_true, true_and, eq_self, Int.add_zero, Int.reduceAdd]; omega) | (simp (disch := omega) only [sA_same, sA_ne, ud_eq, ud_ne, Int.add_zero, Int.reduceAdd]; omega)) | exact o2 (by first | omega | (simp only [sA_same, sA_s, ud_s, Int.reduceEq, if_true, if_false, ite_true, ite_false, ↓reduceIte, and_true, true_and, eq_self, Int.add_zero, Int.reduceAdd]; omega) | (simp (disch := omega) only [sA_same, sA_ne, ud_eq, ud_ne, Int.add_zero, Int.reduceAdd]; omega))
      · refine v_gst_0 (n := 20) xB_113 dX10_isKindOrUnder_17 xO_113 gs_10_291 rfl ?_
        refine v_iload_n (n := 21) xB_113 dX10_isKindOrUnder_20 rfl rfl ?_
        refine v_iaload (n := 22) (lz := 7) xB_113 dX10_isKindOrUnder_21 (sh_ka _ _ _) rfl (by first | omega | (simp only [sA_same, sA_s, ud_s, Int.reduceEq, if_true, if_false, ite_true, ite_false, ↓reduceIte, and_true, true_and, eq_self, Int.add_zero, Int.reduceAdd]; omega) | (simp (disch := omega) only [sA_same, sA_ne, ud_eq, ud_ne, Int.add_zero, Int.reduceAdd]; omega)) rfl ?_
        (try simp only [K0, K1, K2, K3, K4, K5, K6])
        refine v_istore_n2 (n := 23) xB_113 dX10_isKindOrUnder_22 rfl rfl ?_
        refine v_iinc3 (n := 26) xB_113 dX10_isKindOrUnder_23 rfl (by first | omega | (simp only [sA_same, sA_s, ud_s, Int.reduceEq, if_true, if_false, ite_true, ite_false, ↓reduceIte, and_true, true_and, eq_self, Int.add_zero, Int.reduceAdd]; omega) | (simp (disch := omega) only [sA_same, sA_ne, ud_eq, ud_ne, Int.add_zero, Int.reduceAdd]; omega)) rfl ?_
        refine v_goto (t := 4) xB_113 dX10_isKindOrUnder_26 (by decide) rfl ?_
        refine v_iload_n (n := 5) xB_113 dX10_isKindOrUnder_4 rfl rfl ?_
        refine v_gst_0 (n := 8) xB_113 dX10_isKindOrUnder_5 xO_113 gs_10_291 rfl ?_
        refine v_alen (n := 9) (lz := 7) xB_113 dX10_isKindOrUnder_8 (sh_ka _ _ _) (by decide) rfl rfl ?_
        refine v_ic_ge_n (n := 12) xB_113 dX10_isKindOrUnder_9 (by decide) rfl (by decide) ?_
        refine v_iload_n (n := 13) xB_113 dX10_isKindOrUnder_12 rfl rfl ?_
        refine v_iload_n (n := 14) xB_113 dX10_isKindOrUnder_13 rfl rfl ?_
        refine v_ic_le (t := 29) (n := 17) xB_113 dX10_isKindOrUnder_14 (by decide) rfl rfl (fun g5 => ?_) (fun g5 => ?_)
        · refine v_iload_n (n := 30) xB_113 dX10_isKindOrUnder_29 rfl rfl ?_
          refine v_iload_n (n := 31) xB_113 dX10_isKindOrUnder_30 rfl rfl ?_
          refine v_ic_ne (t := 38) (n := 34) xB_113 dX10_isKindOrUnder_31 (by decide) rfl rfl (fun g6 => ?_) (fun g6 => ?_)
          · refine v_iconst (n := 39) xB_113 dX10_isKindOrUnder_38 ⟨by decide, by decide⟩ rfl ?_
            refine v_ireturn1 xB_113 dX10_isKindOrUnder_39 xK_113 (by decide) ?_
            first | exact o1 (by first | omega | (simp only [sA_same, sA_s, ud_s, Int.reduceEq, if_true, if_false, ite_true, ite_false, ↓reduceIte, and_true, true_and, eq_self, Int.add_zero, Int.reduceAdd]; omega) | (simp (disch := omega) only [sA_same, sA_ne, ud_eq, ud_ne, Int.add_zero, Int.reduceAdd]; omega)) | exact o2 (by first | omega | (simp only [sA_same, sA_s, ud_s, Int.reduceEq, if_true, if_false, ite_true, ite_false, ↓reduceIte, and_true, true_and, eq_self, Int.add_zero, Int.reduceAdd]; omega) | (simp (disch := omega) only [sA_same, sA_ne, ud_eq, ud_ne, Int.add_zero, Int.reduceAdd]; omega))
          · refine v_iconst (n := 35) xB_113 dX10_isKindOrUnder_34 ⟨by decide, by decide⟩ rfl ?_
            refine v_goto (t := 39) xB_113 dX10_isKindOrUnder_35 (by decide) rfl ?_
            refine v_ireturn1 xB_113 dX10_isKindOrUnder_39 xK_113 (by decide) ?_
            first | exact o1 (by first | omega | (simp only [sA_same, sA_s, ud_s, Int.reduceEq, if_true, if_false, ite_true, ite_false, ↓reduceIte, and_true, true_and, eq_self, Int.add_zero, Int.reduceAdd]; omega) | (simp (disch := omega) only [sA_same, sA_ne, ud_eq, ud_ne, Int.add_zero, Int.reduceAdd]; omega)) | exact o2 (by first | omega | (simp only [sA_same, sA_s, ud_s, Int.reduceEq, if_true, if_false, ite_true, ite_false, ↓reduceIte, and_true, true_and, eq_self, Int.add_zero, Int.reduceAdd]; omega) | (simp (disch := omega) only [sA_same, sA_ne, ud_eq, ud_ne, Int.add_zero, Int.reduceAdd]; omega))
        · refine v_gst_0 (n := 20) xB_113 dX10_isKindOrUnder_17 xO_113 gs_10_291 rfl ?_
          refine v_iload_n (n := 21) xB_113 dX10_isKindOrUnder_20 rfl rfl ?_
          refine v_iaload (n := 22) (lz := 7) xB_113 dX10_isKindOrUnder_21 (sh_ka _ _ _) rfl (by first | omega | (simp only [sA_same, sA_s, ud_s, Int.reduceEq, if_true, if_false, ite_true, ite_false, ↓reduceIte, and_true, true_and, eq_self, Int.add_zero, Int.reduceAdd]; omega) | (simp (disch := omega) only [sA_same, sA_ne, ud_eq, ud_ne, Int.add_zero, Int.reduceAdd]; omega)) rfl ?_
          (try simp only [K0, K1, K2, K3, K4, K5, K6])
          refine v_istore_n2 (n := 23) xB_113 dX10_isKindOrUnder_22 rfl rfl ?_
          refine v_iinc3 (n := 26) xB_113 dX10_isKindOrUnder_23 rfl (by first | omega | (simp only [sA_same, sA_s, ud_s, Int.reduceEq, if_true, if_false, ite_true, ite_false, ↓reduceIte, and_true, true_and, eq_self, Int.add_zero, Int.reduceAdd]; omega) | (simp (disch := omega) only [sA_same, sA_ne, ud_eq, ud_ne, Int.add_zero, Int.reduceAdd]; omega)) rfl ?_
          refine v_goto (t := 4) xB_113 dX10_isKindOrUnder_26 (by decide) rfl ?_
          refine v_iload_n (n := 5) xB_113 dX10_isKindOrUnder_4 rfl rfl ?_
          refine v_gst_0 (n := 8) xB_113 dX10_isKindOrUnder_5 xO_113 gs_10_291 rfl ?_
          refine v_alen (n := 9) (lz := 7) xB_113 dX10_isKindOrUnder_8 (sh_ka _ _ _) (by decide) rfl rfl ?_
          refine v_ic_ge_n (n := 12) xB_113 dX10_isKindOrUnder_9 (by decide) rfl (by decide) ?_
          refine v_iload_n (n := 13) xB_113 dX10_isKindOrUnder_12 rfl rfl ?_
          refine v_iload_n (n := 14) xB_113 dX10_isKindOrUnder_13 rfl rfl ?_
          refine v_ic_le (t := 29) (n := 17) xB_113 dX10_isKindOrUnder_14 (by decide) rfl rfl (fun g7 => ?_) (fun g7 => ?_)
          · refine v_iload_n (n := 30) xB_113 dX10_isKindOrUnder_29 rfl rfl ?_
            refine v_iload_n (n := 31) xB_113 dX10_isKindOrUnder_30 rfl rfl ?_
            refine v_ic_ne (t := 38) (n := 34) xB_113 dX10_isKindOrUnder_31 (by decide) rfl rfl (fun g8 => ?_) (fun g8 => ?_)
            · refine v_iconst (n := 39) xB_113 dX10_isKindOrUnder_38 ⟨by decide, by decide⟩ rfl ?_
              refine v_ireturn1 xB_113 dX10_isKindOrUnder_39 xK_113 (by decide) ?_
              first | exact o1 (by first | omega | (simp only [sA_same, sA_s, ud_s, Int.reduceEq, if_true, if_false, ite_true, ite_false, ↓reduceIte, and_true, true_and, eq_self, Int.add_zero, Int.reduceAdd]; omega) | (simp (disch := omega) only [sA_same, sA_ne, ud_eq, ud_ne, Int.add_zero, Int.reduceAdd]; omega)) | exact o2 (by first | omega | (simp only [sA_same, sA_s, ud_s, Int.reduceEq, if_true, if_false, ite_true, ite_false, ↓reduceIte, and_true, true_and, eq_self, Int.add_zero, Int.reduceAdd]; omega) | (simp (disch := omega) only [sA_same, sA_ne, ud_eq, ud_ne, Int.add_zero, Int.reduceAdd]; omega))
            · refine v_iconst (n := 35) xB_113 dX10_isKindOrUnder_34 ⟨by decide, by decide⟩ rfl ?_
              refine v_goto (t := 39) xB_113 dX10_isKindOrUnder_35 (by decide) rfl ?_
              refine v_ireturn1 xB_113 dX10_isKindOrUnder_39 xK_113 (by decide) ?_
              first | exact o1 (by first | omega | (simp only [sA_same, sA_s, ud_s, Int.reduceEq, if_true, if_false, ite_true, ite_false, ↓reduceIte, and_true, true_and, eq_self, Int.add_zero, Int.reduceAdd]; omega) | (simp (disch := omega) only [sA_same, sA_ne, ud_eq, ud_ne, Int.add_zero, Int.reduceAdd]; omega)) | exact o2 (by first | omega | (simp only [sA_same, sA_s, ud_s, Int.reduceEq, if_true, if_false, ite_true, ite_false, ↓reduceIte, and_true, true_and, eq_self, Int.add_zero, Int.reduceAdd]; omega) | (simp (disch := omega) only [sA_same, sA_ne, ud_eq, ud_ne, Int.add_zero, Int.reduceAdd]; omega))
          · refine v_gst_0 (n := 20) xB_113 dX10_isKindOrUnder_17 xO_113 gs_10_291 rfl ?_
            refine v_iload_n (n := 21) xB_113 dX10_isKindOrUnder_20 rfl rfl ?_
            refine v_iaload (n := 22) (lz := 7) xB_113 dX10_isKindOrUnder_21 (sh_ka _ _ _) rfl (by first | omega | (simp only [sA_same, sA_s, ud_s, Int.reduceEq, if_true, if_false, ite_true, ite_false, ↓reduceIte, and_true, true_and, eq_self, Int.add_zero, Int.reduceAdd]; omega) | (simp (disch := omega) only [sA_same, sA_ne, ud_eq, ud_ne, Int.add_zero, Int.reduceAdd]; omega)) rfl ?_
            (try simp only [K0, K1, K2, K3, K4, K5, K6])
            refine v_istore_n2 (n := 23) xB_113 dX10_isKindOrUnder_22 rfl rfl ?_
            refine v_iinc3 (n := 26) xB_113 dX10_isKindOrUnder_23 rfl (by first | omega | (simp only [sA_same, sA_s, ud_s, Int.reduceEq, if_true, if_false, ite_true, ite_false, ↓reduceIte, and_true, true_and, eq_self, Int.add_zero, Int.reduceAdd]; omega) | (simp (disch := omega) only [sA_same, sA_ne, ud_eq, ud_ne, Int.add_zero, Int.reduceAdd]; omega)) rfl ?_
            refine v_goto (t := 4) xB_113 dX10_isKindOrUnder_26 (by decide) rfl ?_
            refine v_iload_n (n := 5) xB_113 dX10_isKindOrUnder_4 rfl rfl ?_
            refine v_gst_0 (n := 8) xB_113 dX10_isKindOrUnder_5 xO_113 gs_10_291 rfl ?_
            refine v_alen (n := 9) (lz := 7) xB_113 dX10_isKindOrUnder_8 (sh_ka _ _ _) (by decide) rfl rfl ?_
            refine v_ic_ge_n (n := 12) xB_113 dX10_isKindOrUnder_9 (by decide) rfl (by decide) ?_
            refine v_iload_n (n := 13) xB_113 dX10_isKindOrUnder_12 rfl rfl ?_
            refine v_iload_n (n := 14) xB_113 dX10_isKindOrUnder_13 rfl rfl ?_
            refine v_ic_le (t := 29) (n := 17) xB_113 dX10_isKindOrUnder_14 (by decide) rfl rfl (fun g9 => ?_) (fun g9 => ?_)
            · refine v_iload_n (n := 30) xB_113 dX10_isKindOrUnder_29 rfl rfl ?_
              refine v_iload_n (n := 31) xB_113 dX10_isKindOrUnder_30 rfl rfl ?_
              refine v_ic_ne (t := 38) (n := 34) xB_113 dX10_isKindOrUnder_31 (by decide) rfl rfl (fun g10 => ?_) (fun g10 => ?_)
              · refine v_iconst (n := 39) xB_113 dX10_isKindOrUnder_38 ⟨by decide, by decide⟩ rfl ?_
                refine v_ireturn1 xB_113 dX10_isKindOrUnder_39 xK_113 (by decide) ?_
                first | exact o1 (by first | omega | (simp only [sA_same, sA_s, ud_s, Int.reduceEq, if_true, if_false, ite_true, ite_false, ↓reduceIte, and_true, true_and, eq_self, Int.add_zero, Int.reduceAdd]; omega) | (simp (disch := omega) only [sA_same, sA_ne, ud_eq, ud_ne, Int.add_zero, Int.reduceAdd]; omega)) | exact o2 (by first | omega | (simp only [sA_same, sA_s, ud_s, Int.reduceEq, if_true, if_false, ite_true, ite_false, ↓reduceIte, and_true, true_and, eq_self, Int.add_zero, Int.reduceAdd]; omega) | (simp (disch := omega) only [sA_same, sA_ne, ud_eq, ud_ne, Int.add_zero, Int.reduceAdd]; omega))
              · refine v_iconst (n := 35) xB_113 dX10_isKindOrUnder_34 ⟨by decide, by decide⟩ rfl ?_
                refine v_goto (t := 39) xB_113 dX10_isKindOrUnder_35 (by decide) rfl ?_
                refine v_ireturn1 xB_113 dX10_isKindOrUnder_39 xK_113 (by decide) ?_
                first | exact o1 (by first | omega | (simp only [sA_same, sA_s, ud_s, Int.reduceEq, if_true, if_false, ite_true, ite_false, ↓reduceIte, and_true, true_and, eq_self, Int.add_zero, Int.reduceAdd]; omega) | (simp (disch := omega) only [sA_same, sA_ne, ud_eq, ud_ne, Int.add_zero, Int.reduceAdd]; omega)) | exact o2 (by first | omega | (simp only [sA_same, sA_s, ud_s, Int.reduceEq, if_true, if_false, ite_true, ite_false, ↓reduceIte, and_true, true_and, eq_self, Int.add_zero, Int.reduceAdd]; omega) | (simp (disch := omega) only [sA_same, sA_ne, ud_eq, ud_ne, Int.add_zero, Int.reduceAdd]; omega))
            · refine v_gst_0 (n := 20) xB_113 dX10_isKindOrUnder_17 xO_113 gs_10_291 rfl ?_
              refine v_iload_n (n := 21) xB_113 dX10_isKindOrUnder_20 rfl rfl ?_
              refine v_iaload (n := 22) (lz := 7) xB_113 dX10_isKindOrUnder_21 (sh_ka _ _ _) rfl (by first | omega | (simp only [sA_same, sA_s, ud_s, Int.reduceEq, if_true, if_false, ite_true, ite_false, ↓reduceIte, and_true, true_and, eq_self, Int.add_zero, Int.reduceAdd]; omega) | (simp (disch := omega) only [sA_same, sA_ne, ud_eq, ud_ne, Int.add_zero, Int.reduceAdd]; omega)) rfl ?_
              (try simp only [K0, K1, K2, K3, K4, K5, K6])
              refine v_istore_n2 (n := 23) xB_113 dX10_isKindOrUnder_22 rfl rfl ?_
              refine v_iinc3 (n := 26) xB_113 dX10_isKindOrUnder_23 rfl (by first | omega | (simp only [sA_same, sA_s, ud_s, Int.reduceEq, if_true, if_false, ite_true, ite_false, ↓reduceIte, and_true, true_and, eq_self, Int.add_zero, Int.reduceAdd]; omega) | (simp (disch := omega) only [sA_same, sA_ne, ud_eq, ud_ne, Int.add_zero, Int.reduceAdd]; omega)) rfl ?_
              refine v_goto (t := 4) xB_113 dX10_isKindOrUnder_26 (by decide) rfl ?_
              refine v_iload_n (n := 5) xB_113 dX10_isKindOrUnder_4 rfl rfl ?_
              refine v_gst_0 (n := 8) xB_113 dX10_isKindOrUnder_5 xO_113 gs_10_291 rfl ?_
              refine v_alen (n := 9) (lz := 7) xB_113 dX10_isKindOrUnder_8 (sh_ka _ _ _) (by decide) rfl rfl ?_
              refine v_ic_ge_n (n := 12) xB_113 dX10_isKindOrUnder_9 (by decide) rfl (by decide) ?_
              refine v_iload_n (n := 13) xB_113 dX10_isKindOrUnder_12 rfl rfl ?_
              refine v_iload_n (n := 14) xB_113 dX10_isKindOrUnder_13 rfl rfl ?_
              refine v_ic_le (t := 29) (n := 17) xB_113 dX10_isKindOrUnder_14 (by decide) rfl rfl (fun g11 => ?_) (fun g11 => ?_)
              · refine v_iload_n (n := 30) xB_113 dX10_isKindOrUnder_29 rfl rfl ?_
                refine v_iload_n (n := 31) xB_113 dX10_isKindOrUnder_30 rfl rfl ?_
                refine v_ic_ne (t := 38) (n := 34) xB_113 dX10_isKindOrUnder_31 (by decide) rfl rfl (fun g12 => ?_) (fun g12 => ?_)
                · refine v_iconst (n := 39) xB_113 dX10_isKindOrUnder_38 ⟨by decide, by decide⟩ rfl ?_
                  refine v_ireturn1 xB_113 dX10_isKindOrUnder_39 xK_113 (by decide) ?_
                  first | exact o1 (by first | omega | (simp only [sA_same, sA_s, ud_s, Int.reduceEq, if_true, if_false, ite_true, ite_false, ↓reduceIte, and_true, true_and, eq_self, Int.add_zero, Int.reduceAdd]; omega) | (simp (disch := omega) only [sA_same, sA_ne, ud_eq, ud_ne, Int.add_zero, Int.reduceAdd]; omega)) | exact o2 (by first | omega | (simp only [sA_same, sA_s, ud_s, Int.reduceEq, if_true, if_false, ite_true, ite_false, ↓reduceIte, and_true, true_and, eq_self, Int.add_zero, Int.reduceAdd]; omega) | (simp (disch := omega) only [sA_same, sA_ne, ud_eq, ud_ne, Int.add_zero, Int.reduceAdd]; omega))
                · refine v_iconst (n := 35) xB_113 dX10_isKindOrUnder_34 ⟨by decide, by decide⟩ rfl ?_
                  refine v_goto (t := 39) xB_113 dX10_isKindOrUnder_35 (by decide) rfl ?_
                  refine v_ireturn1 xB_113 dX10_isKindOrUnder_39 xK_113 (by decide) ?_
                  first | exact o1 (by first | omega | (simp only [sA_same, sA_s, ud_s, Int.reduceEq, if_true, if_false, ite_true, ite_false, ↓reduceIte, and_true, true_and, eq_self, Int.add_zero, Int.reduceAdd]; omega) | (simp (disch := omega) only [sA_same, sA_ne, ud_eq, ud_ne, Int.add_zero, Int.reduceAdd]; omega)) | exact o2 (by first | omega | (simp only [sA_same, sA_s, ud_s, Int.reduceEq, if_true, if_false, ite_true, ite_false, ↓reduceIte, and_true, true_and, eq_self, Int.add_zero, Int.reduceAdd]; omega) | (simp (disch := omega) only [sA_same, sA_ne, ud_eq, ud_ne, Int.add_zero, Int.reduceAdd]; omega))
              · refine v_gst_0 (n := 20) xB_113 dX10_isKindOrUnder_17 xO_113 gs_10_291 rfl ?_
                refine v_iload_n (n := 21) xB_113 dX10_isKindOrUnder_20 rfl rfl ?_
                refine v_iaload (n := 22) (lz := 7) xB_113 dX10_isKindOrUnder_21 (sh_ka _ _ _) rfl (by first | omega | (simp only [sA_same, sA_s, ud_s, Int.reduceEq, if_true, if_false, ite_true, ite_false, ↓reduceIte, and_true, true_and, eq_self, Int.add_zero, Int.reduceAdd]; omega) | (simp (disch := omega) only [sA_same, sA_ne, ud_eq, ud_ne, Int.add_zero, Int.reduceAdd]; omega)) rfl ?_
                (try simp only [K0, K1, K2, K3, K4, K5, K6])
                refine v_istore_n2 (n := 23) xB_113 dX10_isKindOrUnder_22 rfl rfl ?_
                refine v_iinc3 (n := 26) xB_113 dX10_isKindOrUnder_23 rfl (by first | omega | (simp only [sA_same, sA_s, ud_s, Int.reduceEq, if_true, if_false, ite_true, ite_false, ↓reduceIte, and_true, true_and, eq_self, Int.add_zero, Int.reduceAdd]; omega) | (simp (disch := omega) only [sA_same, sA_ne, ud_eq, ud_ne, Int.add_zero, Int.reduceAdd]; omega)) rfl ?_
                refine v_goto (t := 4) xB_113 dX10_isKindOrUnder_26 (by decide) rfl ?_
                refine v_iload_n (n := 5) xB_113 dX10_isKindOrUnder_4 rfl rfl ?_
                refine v_gst_0 (n := 8) xB_113 dX10_isKindOrUnder_5 xO_113 gs_10_291 rfl ?_
                refine v_alen (n := 9) (lz := 7) xB_113 dX10_isKindOrUnder_8 (sh_ka _ _ _) (by decide) rfl rfl ?_
                refine v_ic_ge_n (n := 12) xB_113 dX10_isKindOrUnder_9 (by decide) rfl (by decide) ?_
                refine v_iload_n (n := 13) xB_113 dX10_isKindOrUnder_12 rfl rfl ?_
                refine v_iload_n (n := 14) xB_113 dX10_isKindOrUnder_13 rfl rfl ?_
                refine v_ic_le (t := 29) (n := 17) xB_113 dX10_isKindOrUnder_14 (by decide) rfl rfl (fun g13 => ?_) (fun g13 => ?_)
                · refine v_iload_n (n := 30) xB_113 dX10_isKindOrUnder_29 rfl rfl ?_
                  refine v_iload_n (n := 31) xB_113 dX10_isKindOrUnder_30 rfl rfl ?_
                  refine v_ic_ne (t := 38) (n := 34) xB_113 dX10_isKindOrUnder_31 (by decide) rfl rfl (fun g14 => ?_) (fun g14 => ?_)
                  · refine v_iconst (n := 39) xB_113 dX10_isKindOrUnder_38 ⟨by decide, by decide⟩ rfl ?_
                    refine v_ireturn1 xB_113 dX10_isKindOrUnder_39 xK_113 (by decide) ?_
                    first | exact o1 (by first | omega | (simp only [sA_same, sA_s, ud_s, Int.reduceEq, if_true, if_false, ite_true, ite_false, ↓reduceIte, and_true, true_and, eq_self, Int.add_zero, Int.reduceAdd]; omega) | (simp (disch := omega) only [sA_same, sA_ne, ud_eq, ud_ne, Int.add_zero, Int.reduceAdd]; omega)) | exact o2 (by first | omega | (simp only [sA_same, sA_s, ud_s, Int.reduceEq, if_true, if_false, ite_true, ite_false, ↓reduceIte, and_true, true_and, eq_self, Int.add_zero, Int.reduceAdd]; omega) | (simp (disch := omega) only [sA_same, sA_ne, ud_eq, ud_ne, Int.add_zero, Int.reduceAdd]; omega))
                  · refine v_iconst (n := 35) xB_113 dX10_isKindOrUnder_34 ⟨by decide, by decide⟩ rfl ?_
                    refine v_goto (t := 39) xB_113 dX10_isKindOrUnder_35 (by decide) rfl ?_
                    refine v_ireturn1 xB_113 dX10_isKindOrUnder_39 xK_113 (by decide) ?_
                    first | exact o1 (by first | omega | (simp only [sA_same, sA_s, ud_s, Int.reduceEq, if_true, if_false, ite_true, ite_false, ↓reduceIte, and_true, true_and, eq_self, Int.add_zero, Int.reduceAdd]; omega) | (simp (disch := omega) only [sA_same, sA_ne, ud_eq, ud_ne, Int.add_zero, Int.reduceAdd]; omega)) | exact o2 (by first | omega | (simp only [sA_same, sA_s, ud_s, Int.reduceEq, if_true, if_false, ite_true, ite_false, ↓reduceIte, and_true, true_and, eq_self, Int.add_zero, Int.reduceAdd]; omega) | (simp (disch := omega) only [sA_same, sA_ne, ud_eq, ud_ne, Int.add_zero, Int.reduceAdd]; omega))
                · refine v_gst_0 (n := 20) xB_113 dX10_isKindOrUnder_17 xO_113 gs_10_291 rfl ?_
                  refine v_iload_n (n := 21) xB_113 dX10_isKindOrUnder_20 rfl rfl ?_
                  refine v_iaload (n := 22) (lz := 7) xB_113 dX10_isKindOrUnder_21 (sh_ka _ _ _) rfl (by first | omega | (simp only [sA_same, sA_s, ud_s, Int.reduceEq, if_true, if_false, ite_true, ite_false, ↓reduceIte, and_true, true_and, eq_self, Int.add_zero, Int.reduceAdd]; omega) | (simp (disch := omega) only [sA_same, sA_ne, ud_eq, ud_ne, Int.add_zero, Int.reduceAdd]; omega)) rfl ?_
                  (try simp only [K0, K1, K2, K3, K4, K5, K6])
                  refine v_istore_n2 (n := 23) xB_113 dX10_isKindOrUnder_22 rfl rfl ?_
                  refine v_iinc3 (n := 26) xB_113 dX10_isKindOrUnder_23 rfl (by first | omega | (simp only [sA_same, sA_s, ud_s, Int.reduceEq, if_true, if_false, ite_true, ite_false, ↓reduceIte, and_true, true_and, eq_self, Int.add_zero, Int.reduceAdd]; omega) | (simp (disch := omega) only [sA_same, sA_ne, ud_eq, ud_ne, Int.add_zero, Int.reduceAdd]; omega)) rfl ?_
                  refine v_goto (t := 4) xB_113 dX10_isKindOrUnder_26 (by decide) rfl ?_
                  refine v_iload_n (n := 5) xB_113 dX10_isKindOrUnder_4 rfl rfl ?_
                  refine v_gst_0 (n := 8) xB_113 dX10_isKindOrUnder_5 xO_113 gs_10_291 rfl ?_
                  refine v_alen (n := 9) (lz := 7) xB_113 dX10_isKindOrUnder_8 (sh_ka _ _ _) (by decide) rfl rfl ?_
                  refine v_ic_ge_y (t := 29) xB_113 dX10_isKindOrUnder_9 (by decide) rfl (by decide) ?_
                  refine v_iload_n (n := 30) xB_113 dX10_isKindOrUnder_29 rfl rfl ?_
                  refine v_iload_n (n := 31) xB_113 dX10_isKindOrUnder_30 rfl rfl ?_
                  refine v_ic_ne (t := 38) (n := 34) xB_113 dX10_isKindOrUnder_31 (by decide) rfl rfl (fun g15 => ?_) (fun g15 => ?_)
                  · refine v_iconst (n := 39) xB_113 dX10_isKindOrUnder_38 ⟨by decide, by decide⟩ rfl ?_
                    refine v_ireturn1 xB_113 dX10_isKindOrUnder_39 xK_113 (by decide) ?_
                    first | exact o1 (by first | omega | (simp only [sA_same, sA_s, ud_s, Int.reduceEq, if_true, if_false, ite_true, ite_false, ↓reduceIte, and_true, true_and, eq_self, Int.add_zero, Int.reduceAdd]; omega) | (simp (disch := omega) only [sA_same, sA_ne, ud_eq, ud_ne, Int.add_zero, Int.reduceAdd]; omega)) | exact o2 (by first | omega | (simp only [sA_same, sA_s, ud_s, Int.reduceEq, if_true, if_false, ite_true, ite_false, ↓reduceIte, and_true, true_and, eq_self, Int.add_zero, Int.reduceAdd]; omega) | (simp (disch := omega) only [sA_same, sA_ne, ud_eq, ud_ne, Int.add_zero, Int.reduceAdd]; omega))
                  · refine v_iconst (n := 35) xB_113 dX10_isKindOrUnder_34 ⟨by decide, by decide⟩ rfl ?_
                    refine v_goto (t := 39) xB_113 dX10_isKindOrUnder_35 (by decide) rfl ?_
                    refine v_ireturn1 xB_113 dX10_isKindOrUnder_39 xK_113 (by decide) ?_
                    first | exact o1 (by first | omega | (simp only [sA_same, sA_s, ud_s, Int.reduceEq, if_true, if_false, ite_true, ite_false, ↓reduceIte, and_true, true_and, eq_self, Int.add_zero, Int.reduceAdd]; omega) | (simp (disch := omega) only [sA_same, sA_ne, ud_eq, ud_ne, Int.add_zero, Int.reduceAdd]; omega)) | exact o2 (by first | omega | (simp only [sA_same, sA_s, ud_s, Int.reduceEq, if_true, if_false, ite_true, ite_false, ↓reduceIte, and_true, true_and, eq_self, Int.add_zero, Int.reduceAdd]; omega) | (simp (disch := omega) only [sA_same, sA_ne, ud_eq, ud_ne, Int.add_zero, Int.reduceAdd]; omega))
  · subst hx
    refine v_iload_n (n := 1) xB_113 dX10_isKindOrUnder_0 rfl rfl ?_
    refine v_istore_n2 (n := 2) xB_113 dX10_isKindOrUnder_1 rfl rfl ?_
    refine v_iconst (n := 3) xB_113 dX10_isKindOrUnder_2 ⟨by decide, by decide⟩ rfl ?_
    refine v_istore_n3 (n := 4) xB_113 dX10_isKindOrUnder_3 rfl rfl ?_
    refine v_iload_n (n := 5) xB_113 dX10_isKindOrUnder_4 rfl rfl ?_
    refine v_gst_0 (n := 8) xB_113 dX10_isKindOrUnder_5 xO_113 gs_10_291 rfl ?_
    refine v_alen (n := 9) (lz := 7) xB_113 dX10_isKindOrUnder_8 (sh_ka _ _ _) (by decide) rfl rfl ?_
    refine v_ic_ge_n (n := 12) xB_113 dX10_isKindOrUnder_9 (by decide) rfl (by decide) ?_
    refine v_iload_n (n := 13) xB_113 dX10_isKindOrUnder_12 rfl rfl ?_
    refine v_iload_n (n := 14) xB_113 dX10_isKindOrUnder_13 rfl rfl ?_
    refine v_ic_le (t := 29) (n := 17) xB_113 dX10_isKindOrUnder_14 (by decide) rfl rfl (fun g1 => ?_) (fun g1 => ?_)
    · refine v_iload_n (n := 30) xB_113 dX10_isKindOrUnder_29 rfl rfl ?_
      refine v_iload_n (n := 31) xB_113 dX10_isKindOrUnder_30 rfl rfl ?_
      refine v_ic_ne (t := 38) (n := 34) xB_113 dX10_isKindOrUnder_31 (by decide) rfl rfl (fun g2 => ?_) (fun g2 => ?_)
      · refine v_iconst (n := 39) xB_113 dX10_isKindOrUnder_38 ⟨by decide, by decide⟩ rfl ?_
        refine v_ireturn1 xB_113 dX10_isKindOrUnder_39 xK_113 (by decide) ?_
        first | exact o1 (by first | omega | (simp only [sA_same, sA_s, ud_s, Int.reduceEq, if_true, if_false, ite_true, ite_false, ↓reduceIte, and_true, true_and, eq_self, Int.add_zero, Int.reduceAdd]; omega) | (simp (disch := omega) only [sA_same, sA_ne, ud_eq, ud_ne, Int.add_zero, Int.reduceAdd]; omega)) | exact o2 (by first | omega | (simp only [sA_same, sA_s, ud_s, Int.reduceEq, if_true, if_false, ite_true, ite_false, ↓reduceIte, and_true, true_and, eq_self, Int.add_zero, Int.reduceAdd]; omega) | (simp (disch := omega) only [sA_same, sA_ne, ud_eq, ud_ne, Int.add_zero, Int.reduceAdd]; omega))
      · refine v_iconst (n := 35) xB_113 dX10_isKindOrUnder_34 ⟨by decide, by decide⟩ rfl ?_
        refine v_goto (t := 39) xB_113 dX10_isKindOrUnder_35 (by decide) rfl ?_
        refine v_ireturn1 xB_113 dX10_isKindOrUnder_39 xK_113 (by decide) ?_
        first | exact o1 (by first | omega | (simp only [sA_same, sA_s, ud_s, Int.reduceEq, if_true, if_false, ite_true, ite_false, ↓reduceIte, and_true, true_and, eq_self, Int.add_zero, Int.reduceAdd]; omega) | (simp (disch := omega) only [sA_same, sA_ne, ud_eq, ud_ne, Int.add_zero, Int.reduceAdd]; omega)) | exact o2 (by first | omega | (simp only [sA_same, sA_s, ud_s, Int.reduceEq, if_true, if_false, ite_true, ite_false, ↓reduceIte, and_true, true_and, eq_self, Int.add_zero, Int.reduceAdd]; omega) | (simp (disch := omega) only [sA_same, sA_ne, ud_eq, ud_ne, Int.add_zero, Int.reduceAdd]; omega))
    · refine v_gst_0 (n := 20) xB_113 dX10_isKindOrUnder_17 xO_113 gs_10_291 rfl ?_
      refine v_iload_n (n := 21) xB_113 dX10_isKindOrUnder_20 rfl rfl ?_
      refine v_iaload (n := 22) (lz := 7) xB_113 dX10_isKindOrUnder_21 (sh_ka _ _ _) rfl (by first | omega | (simp only [sA_same, sA_s, ud_s, Int.reduceEq, if_true, if_false, ite_true, ite_false, ↓reduceIte, and_true, true_and, eq_self, Int.add_zero, Int.reduceAdd]; omega) | (simp (disch := omega) only [sA_same, sA_ne, ud_eq, ud_ne, Int.add_zero, Int.reduceAdd]; omega)) rfl ?_
      (try simp only [K0, K1, K2, K3, K4, K5, K6])
      refine v_istore_n2 (n := 23) xB_113 dX10_isKindOrUnder_22 rfl rfl ?_
      refine v_iinc3 (n := 26) xB_113 dX10_isKindOrUnder_23 rfl (by first | omega | (simp only [sA_same, sA_s, ud_s, Int.reduceEq, if_true, if_false, ite_true, ite_false, ↓reduceIte, and_true, true_and, eq_self, Int.add_zero, Int.reduceAdd]; omega) | (simp (disch := omega) only [sA_same, sA_ne, ud_eq, ud_ne, Int.add_zero, Int.reduceAdd]; omega)) rfl ?_
      refine v_goto (t := 4) xB_113 dX10_isKindOrUnder_26 (by decide) rfl ?_
      refine v_iload_n (n := 5) xB_113 dX10_isKindOrUnder_4 rfl rfl ?_
      refine v_gst_0 (n := 8) xB_113 dX10_isKindOrUnder_5 xO_113 gs_10_291 rfl ?_
      refine v_alen (n := 9) (lz := 7) xB_113 dX10_isKindOrUnder_8 (sh_ka _ _ _) (by decide) rfl rfl ?_
      refine v_ic_ge_n (n := 12) xB_113 dX10_isKindOrUnder_9 (by decide) rfl (by decide) ?_
      refine v_iload_n (n := 13) xB_113 dX10_isKindOrUnder_12 rfl rfl ?_
      refine v_iload_n (n := 14) xB_113 dX10_isKindOrUnder_13 rfl rfl ?_
      refine v_ic_le (t := 29) (n := 17) xB_113 dX10_isKindOrUnder_14 (by decide) rfl rfl (fun g3 => ?_) (fun g3 => ?_)
      · refine v_iload_n (n := 30) xB_113 dX10_isKindOrUnder_29 rfl rfl ?_
        refine v_iload_n (n := 31) xB_113 dX10_isKindOrUnder_30 rfl rfl ?_
        refine v_ic_ne (t := 38) (n := 34) xB_113 dX10_isKindOrUnder_31 (by decide) rfl rfl (fun g4 => ?_) (fun g4 => ?_)
        · refine v_iconst (n := 39) xB_113 dX10_isKindOrUnder_38 ⟨by decide, by decide⟩ rfl ?_
          refine v_ireturn1 xB_113 dX10_isKindOrUnder_39 xK_113 (by decide) ?_
          first | exact o1 (by first | omega | (simp only [sA_same, sA_s, ud_s, Int.reduceEq, if_true, if_false, ite_true, ite_false, ↓reduceIte, and_true, true_and, eq_self, Int.add_zero, Int.reduceAdd]; omega) | (simp (disch := omega) only [sA_same, sA_ne, ud_eq, ud_ne, Int.add_zero, Int.reduceAdd]; omega)) | exact o2 (by first | omega | (simp only [sA_same, sA_s, ud_s, Int.reduceEq, if_true, if_false, ite_true, ite_false, ↓reduceIte, and_true, true_and, eq_self, Int.add_zero, Int.reduceAdd]; omega) | (simp (disch := omega) only [sA_same, sA_ne, ud_eq, ud_ne, Int.add_zero, Int.reduceAdd]; omega))
        · refine v_iconst (n := 35) xB_113 dX10_isKindOrUnder_34 ⟨by decide, by decide⟩ rfl ?_
          refine v_goto (t := 39) xB_113 dX10_isKindOrUnder_35 (by decide) rfl ?_
          refine v_ireturn1 xB_113 dX10_isKindOrUnder_39 xK_113 (by decide) ?_
          first | exact o1 (by first | omega | (simp only [sA_same, sA_s, ud_s, Int.reduceEq, if_true, if_false, ite_true, ite_false, ↓reduceIte, and_true, true_and, eq_self, Int.add_zero, Int.reduceAdd]; omega) | (simp (disch := omega) only [sA_same, sA_ne, ud_eq, ud_ne, Int.add_zero, Int.reduceAdd]; omega)) | exact o2 (by first | omega | (simp only [sA_same, sA_s, ud_s, Int.reduceEq, if_true, if_false, ite_true, ite_false, ↓reduceIte, and_true, true_and, eq_self, Int.add_zero, Int.reduceAdd]; omega) | (simp (disch := omega) only [sA_same, sA_ne, ud_eq, ud_ne, Int.add_zero, Int.reduceAdd]; omega))
      · refine v_gst_0 (n := 20) xB_113 dX10_isKindOrUnder_17 xO_113 gs_10_291 rfl ?_
        refine v_iload_n (n := 21) xB_113 dX10_isKindOrUnder_20 rfl rfl ?_
        refine v_iaload (n := 22) (lz := 7) xB_113 dX10_isKindOrUnder_21 (sh_ka _ _ _) rfl (by first | omega | (simp only [sA_same, sA_s, ud_s, Int.reduceEq, if_true, if_false, ite_true, ite_false, ↓reduceIte, and_true, true_and, eq_self, Int.add_zero, Int.reduceAdd]; omega) | (simp (disch := omega) only [sA_same, sA_ne, ud_eq, ud_ne, Int.add_zero, Int.reduceAdd]; omega)) rfl ?_
        (try simp only [K0, K1, K2, K3, K4, K5, K6])
        refine v_istore_n2 (n := 23) xB_113 dX10_isKindOrUnder_22 rfl rfl ?_
        refine v_iinc3 (n := 26) xB_113 dX10_isKindOrUnder_23 rfl (by first | omega | (simp only [sA_same, sA_s, ud_s, Int.reduceEq, if_true, if_false, ite_true, ite_false, ↓reduceIte, and_true, true_and, eq_self, Int.add_zero, Int.reduceAdd]; omega) | (simp (disch := omega) only [sA_same, sA_ne, ud_eq, ud_ne, Int.add_zero, Int.reduceAdd]; omega)) rfl ?_
        refine v_goto (t := 4) xB_113 dX10_isKindOrUnder_26 (by decide) rfl ?_
        refine v_iload_n (n := 5) xB_113 dX10_isKindOrUnder_4 rfl rfl ?_
        refine v_gst_0 (n := 8) xB_113 dX10_isKindOrUnder_5 xO_113 gs_10_291 rfl ?_
        refine v_alen (n := 9) (lz := 7) xB_113 dX10_isKindOrUnder_8 (sh_ka _ _ _) (by decide) rfl rfl ?_
        refine v_ic_ge_n (n := 12) xB_113 dX10_isKindOrUnder_9 (by decide) rfl (by decide) ?_
        refine v_iload_n (n := 13) xB_113 dX10_isKindOrUnder_12 rfl rfl ?_
        refine v_iload_n (n := 14) xB_113 dX10_isKindOrUnder_13 rfl rfl ?_
        refine v_ic_le (t := 29) (n := 17) xB_113 dX10_isKindOrUnder_14 (by decide) rfl rfl (fun g5 => ?_) (fun g5 => ?_)
        · refine v_iload_n (n := 30) xB_113 dX10_isKindOrUnder_29 rfl rfl ?_
          refine v_iload_n (n := 31) xB_113 dX10_isKindOrUnder_30 rfl rfl ?_
          refine v_ic_ne (t := 38) (n := 34) xB_113 dX10_isKindOrUnder_31 (by decide) rfl rfl (fun g6 => ?_) (fun g6 => ?_)
          · refine v_iconst (n := 39) xB_113 dX10_isKindOrUnder_38 ⟨by decide, by decide⟩ rfl ?_
            refine v_ireturn1 xB_113 dX10_isKindOrUnder_39 xK_113 (by decide) ?_
            first | exact o1 (by first | omega | (simp only [sA_same, sA_s, ud_s, Int.reduceEq, if_true, if_false, ite_true, ite_false, ↓reduceIte, and_true, true_and, eq_self, Int.add_zero, Int.reduceAdd]; omega) | (simp (disch := omega) only [sA_same, sA_ne, ud_eq, ud_ne, Int.add_zero, Int.reduceAdd]; omega)) | exact o2 (by first | omega | (simp only [sA_same, sA_s, ud_s, Int.reduceEq, if_true, if_false, ite_true, ite_false, ↓reduceIte, and_true, true_and, eq_self, Int.add_zero, Int.reduceAdd]; omega) | (simp (disch := omega) only [sA_same, sA_ne, ud_eq, ud_ne, Int.add_zero, Int.reduceAdd]; omega))
          · refine v_iconst (n := 35) xB_113 dX10_isKindOrUnder_34 ⟨by decide, by decide⟩ rfl ?_
            refine v_goto (t := 39) xB_113 dX10_isKindOrUnder_35 (by decide) rfl ?_
            refine v_ireturn1 xB_113 dX10_isKindOrUnder_39 xK_113 (by decide) ?_
            first | exact o1 (by first | omega | (simp only [sA_same, sA_s, ud_s, Int.reduceEq, if_true, if_false, ite_true, ite_false, ↓reduceIte, and_true, true_and, eq_self, Int.add_zero, Int.reduceAdd]; omega) | (simp (disch := omega) only [sA_same, sA_ne, ud_eq, ud_ne, Int.add_zero, Int.reduceAdd]; omega)) | exact o2 (by first | omega | (simp only [sA_same, sA_s, ud_s, Int.reduceEq, if_true, if_false, ite_true, ite_false, ↓reduceIte, and_true, true_and, eq_self, Int.add_zero, Int.reduceAdd]; omega) | (simp (disch := omega) only [sA_same, sA_ne, ud_eq, ud_ne, Int.add_zero, Int.reduceAdd]; omega))
        · refine v_gst_0 (n := 20) xB_113 dX10_isKindOrUnder_17 xO_113 gs_10_291 rfl ?_
          refine v_iload_n (n := 21) xB_113 dX10_isKindOrUnder_20 rfl rfl ?_
          refine v_iaload (n := 22) (lz := 7) xB_113 dX10_isKindOrUnder_21 (sh_ka _ _ _) rfl (by first | omega | (simp only [sA_same, sA_s, ud_s, Int.reduceEq, if_true, if_false, ite_true, ite_false, ↓reduceIte, and_true, true_and, eq_self, Int.add_zero, Int.reduceAdd]; omega) | (simp (disch := omega) only [sA_same, sA_ne, ud_eq, ud_ne, Int.add_zero, Int.reduceAdd]; omega)) rfl ?_
          (try simp only [K0, K1, K2, K3, K4, K5, K6])
          refine v_istore_n2 (n := 23) xB_113 dX10_isKindOrUnder_22 rfl rfl ?_
          refine v_iinc3 (n := 26) xB_113 dX10_isKindOrUnder_23 rfl (by first | omega | (simp only [sA_same, sA_s, ud_s, Int.reduceEq, if_true, if_false, ite_true, ite_false, ↓reduceIte, and_true, true_and, eq_self, Int.add_zero, Int.reduceAdd]; omega) | (simp (disch := omega) only [sA_same, sA_ne, ud_eq, ud_ne, Int.add_zero, Int.reduceAdd]; omega)) rfl ?_
          refine v_goto (t := 4) xB_113 dX10_isKindOrUnder_26 (by decide) rfl ?_
          refine v_iload_n (n := 5) xB_113 dX10_isKindOrUnder_4 rfl rfl ?_
          refine v_gst_0 (n := 8) xB_113 dX10_isKindOrUnder_5 xO_113 gs_10_291 rfl ?_
          refine v_alen (n := 9) (lz := 7) xB_113 dX10_isKindOrUnder_8 (sh_ka _ _ _) (by decide) rfl rfl ?_
          refine v_ic_ge_n (n := 12) xB_113 dX10_isKindOrUnder_9 (by decide) rfl (by decide) ?_
          refine v_iload_n (n := 13) xB_113 dX10_isKindOrUnder_12 rfl rfl ?_
          refine v_iload_n (n := 14) xB_113 dX10_isKindOrUnder_13 rfl rfl ?_
          refine v_ic_le (t := 29) (n := 17) xB_113 dX10_isKindOrUnder_14 (by decide) rfl rfl (fun g7 => ?_) (fun g7 => ?_)
          · refine v_iload_n (n := 30) xB_113 dX10_isKindOrUnder_29 rfl rfl ?_
            refine v_iload_n (n := 31) xB_113 dX10_isKindOrUnder_30 rfl rfl ?_
            refine v_ic_ne (t := 38) (n := 34) xB_113 dX10_isKindOrUnder_31 (by decide) rfl rfl (fun g8 => ?_) (fun g8 => ?_)
            · refine v_iconst (n := 39) xB_113 dX10_isKindOrUnder_38 ⟨by decide, by decide⟩ rfl ?_
              refine v_ireturn1 xB_113 dX10_isKindOrUnder_39 xK_113 (by decide) ?_
              first | exact o1 (by first | omega | (simp only [sA_same, sA_s, ud_s, Int.reduceEq, if_true, if_false, ite_true, ite_false, ↓reduceIte, and_true, true_and, eq_self, Int.add_zero, Int.reduceAdd]; omega) | (simp (disch := omega) only [sA_same, sA_ne, ud_eq, ud_ne, Int.add_zero, Int.reduceAdd]; omega)) | exact o2 (by first | omega | (simp only [sA_same, sA_s, ud_s, Int.reduceEq, if_true, if_false, ite_true, ite_false, ↓reduceIte, and_true, true_and, eq_self, Int.add_zero, Int.reduceAdd]; omega) | (simp (disch := omega) only [sA_same, sA_ne, ud_eq, ud_ne, Int.add_zero, Int.reduceAdd]; omega))
            · refine v_iconst (n := 35) xB_113 dX10_isKindOrUnder_34 ⟨by decide, by decide⟩ rfl ?_
              refine v_goto (t := 39) xB_113 dX10_isKindOrUnder_35 (by decide) rfl ?_
              refine v_ireturn1 xB_113 dX10_isKindOrUnder_39 xK_113 (by decide) ?_
              first | exact o1 (by first | omega | (simp only [sA_same, sA_s, ud_s, Int.reduceEq, if_true, if_false, ite_true, ite_false, ↓reduceIte, and_true, true_and, eq_self, Int.add_zero, Int.reduceAdd]; omega) | (simp (disch := omega) only [sA_same, sA_ne, ud_eq, ud_ne, Int.add_zero, Int.reduceAdd]; omega)) | exact o2 (by first | omega | (simp only [sA_same, sA_s, ud_s, Int.reduceEq, if_true, if_false, ite_true, ite_false, ↓reduceIte, and_true, true_and, eq_self, Int.add_zero, Int.reduceAdd]; omega) | (simp (disch := omega) only [sA_same, sA_ne, ud_eq, ud_ne, Int.add_zero, Int.reduceAdd]; omega))
          · refine v_gst_0 (n := 20) xB_113 dX10_isKindOrUnder_17 xO_113 gs_10_291 rfl ?_
            refine v_iload_n (n := 21) xB_113 dX10_isKindOrUnder_20 rfl rfl ?_
            refine v_iaload (n := 22) (lz := 7) xB_113 dX10_isKindOrUnder_21 (sh_ka _ _ _) rfl (by first | omega | (simp only [sA_same, sA_s, ud_s, Int.reduceEq, if_true, if_false, ite_true, ite_false, ↓reduceIte, and_true, true_and, eq_self, Int.add_zero, Int.reduceAdd]; omega) | (simp (disch := omega) only [sA_same, sA_ne, ud_eq, ud_ne, Int.add_zero, Int.reduceAdd]; omega)) rfl ?_
            (try simp only [K0, K1, K2, K3, K4, K5, K6])
            refine v_istore_n2 (n := 23) xB_113 dX10_isKindOrUnder_22 rfl rfl ?_
            refine v_iinc3 (n := 26) xB_113 dX10_isKindOrUnder_23 rfl (by first | omega | (simp only [sA_same, sA_s, ud_s, Int.reduceEq, if_true, if_false, ite_true, ite_false, ↓reduceIte, and_true, true_and, eq_self, Int.add_zero, Int.reduceAdd]; omega) | (simp (disch := omega) only [sA_same, sA_ne, ud_eq, ud_ne, Int.add_zero, Int.reduceAdd]; omega)) rfl ?_
            refine v_goto (t := 4) xB_113 dX10_isKindOrUnder_26 (by decide) rfl ?_
            refine v_iload_n (n := 5) xB_113 dX10_isKindOrUnder_4 rfl rfl ?_
            refine v_gst_0 (n := 8) xB_113 dX10_isKindOrUnder_5 xO_113 gs_10_291 rfl ?_
            refine v_alen (n := 9) (lz := 7) xB_113 dX10_isKindOrUnder_8 (sh_ka _ _ _) (by decide) rfl rfl ?_
            refine v_ic_ge_n (n := 12) xB_113 dX10_isKindOrUnder_9 (by decide) rfl (by decide) ?_
            refine v_iload_n (n := 13) xB_113 dX10_isKindOrUnder_12 rfl rfl ?_
            refine v_iload_n (n := 14) xB_113 dX10_isKindOrUnder_13 rfl rfl ?_
            refine v_ic_le (t := 29) (n := 17) xB_113 dX10_isKindOrUnder_14 (by decide) rfl rfl (fun g9 => ?_) (fun g9 => ?_)
            · refine v_iload_n (n := 30) xB_113 dX10_isKindOrUnder_29 rfl rfl ?_
              refine v_iload_n (n := 31) xB_113 dX10_isKindOrUnder_30 rfl rfl ?_
              refine v_ic_ne (t := 38) (n := 34) xB_113 dX10_isKindOrUnder_31 (by decide) rfl rfl (fun g10 => ?_) (fun g10 => ?_)
              · refine v_iconst (n := 39) xB_113 dX10_isKindOrUnder_38 ⟨by decide, by decide⟩ rfl ?_
                refine v_ireturn1 xB_113 dX10_isKindOrUnder_39 xK_113 (by decide) ?_
                first | exact o1 (by first | omega | (simp only [sA_same, sA_s, ud_s, Int.reduceEq, if_true, if_false, ite_true, ite_false, ↓reduceIte, and_true, true_and, eq_self, Int.add_zero, Int.reduceAdd]; omega) | (simp (disch := omega) only [sA_same, sA_ne, ud_eq, ud_ne, Int.add_zero, Int.reduceAdd]; omega)) | exact o2 (by first | omega | (simp only [sA_same, sA_s, ud_s, Int.reduceEq, if_true, if_false, ite_true, ite_false, ↓reduceIte, and_true, true_and, eq_self, Int.add_zero, Int.reduceAdd]; omega) | (simp (disch := omega) only [sA_same, sA_ne, ud_eq, ud_ne, Int.add_zero, Int.reduceAdd]; omega))
              · refine v_iconst (n := 35) xB_113 dX10_isKindOrUnder_34 ⟨by decide, by decide⟩ rfl ?_
                refine v_goto (t := 39) xB_113 dX10_isKindOrUnder_35 (by decide) rfl ?_
                refine v_ireturn1 xB_113 dX10_isKindOrUnder_39 xK_113 (by decide) ?_
                first | exact o1 (by first | omega | (simp only [sA_same, sA_s, ud_s, Int.reduceEq, if_true, if_false, ite_true, ite_false, ↓reduceIte, and_true, true_and, eq_self, Int.add_zero, Int.reduceAdd]; omega) | (simp (disch := omega) only [sA_same, sA_ne, ud_eq, ud_ne, Int.add_zero, Int.reduceAdd]; omega)) | exact o2 (by first | omega | (simp only [sA_same, sA_s, ud_s, Int.reduceEq, if_true, if_false, ite_true, ite_false, ↓reduceIte, and_true, true_and, eq_self, Int.add_zero, Int.reduceAdd]; omega) | (simp (disch := omega) only [sA_same, sA_ne, ud_eq, ud_ne, Int.add_zero, Int.reduceAdd]; omega))
            · refine v_gst_0 (n := 20) xB_113 dX10_isKindOrUnder_17 xO_113 gs_10_291 rfl ?_
              refine v_iload_n (n := 21) xB_113 dX10_isKindOrUnder_20 rfl rfl ?_
              refine v_iaload (n := 22) (lz := 7) xB_113 dX10_isKindOrUnder_21 (sh_ka _ _ _) rfl (by first | omega | (simp only [sA_same, sA_s, ud_s, Int.reduceEq, if_true, if_false, ite_true, ite_false, ↓reduceIte, and_true, true_and, eq_self, Int.add_zero, Int.reduceAdd]; omega) | (simp (disch := omega) only [sA_same, sA_ne, ud_eq, ud_ne, Int.add_zero, Int.reduceAdd]; omega)) rfl ?_
              (try simp only [K0, K1, K2, K3, K4, K5, K6])
              refine v_istore_n2 (n := 23) xB_113 dX10_isKindOrUnder_22 rfl rfl ?_
              refine v_iinc3 (n := 26) xB_113 dX10_isKindOrUnder_23 rfl (by first | omega | (simp only [sA_same, sA_s, ud_s, Int.reduceEq, if_true, if_false, ite_true, ite_false, ↓reduceIte, and_true, true_and, eq_self, Int.add_zero, Int.reduceAdd]; omega) | (simp (disch := omega) only [sA_same, sA_ne, ud_eq, ud_ne, Int.add_zero, Int.reduceAdd]; omega)) rfl ?_
              refine v_goto (t := 4) xB_113 dX10_isKindOrUnder_26 (by decide) rfl ?_
              refine v_iload_n (n := 5) xB_113 dX10_isKindOrUnder_4 rfl rfl ?_
              refine v_gst_0 (n := 8) xB_113 dX10_isKindOrUnder_5 xO_113 gs_10_291 rfl ?_
              refine v_alen (n := 9) (lz := 7) xB_113 dX10_isKindOrUnder_8 (sh_ka _ _ _) (by decide) rfl rfl ?_
              refine v_ic_ge_n (n := 12) xB_113 dX10_isKindOrUnder_9 (by decide) rfl (by decide) ?_
              refine v_iload_n (n := 13) xB_113 dX10_isKindOrUnder_12 rfl rfl ?_
              refine v_iload_n (n := 14) xB_113 dX10_isKindOrUnder_13 rfl rfl ?_
              refine v_ic_le (t := 29) (n := 17) xB_113 dX10_isKindOrUnder_14 (by decide) rfl rfl (fun g11 => ?_) (fun g11 => ?_)
              · refine v_iload_n (n := 30) xB_113 dX10_isKindOrUnder_29 rfl rfl ?_
                refine v_iload_n (n := 31) xB_113 dX10_isKindOrUnder_30 rfl rfl ?_
                refine v_ic_ne (t := 38) (n := 34) xB_113 dX10_isKindOrUnder_31 (by decide) rfl rfl (fun g12 => ?_) (fun g12 => ?_)
                · refine v_iconst (n := 39) xB_113 dX10_isKindOrUnder_38 ⟨by decide, by decide⟩ rfl ?_
                  refine v_ireturn1 xB_113 dX10_isKindOrUnder_39 xK_113 (by decide) ?_
                  first | exact o1 (by first | omega | (simp only [sA_same, sA_s, ud_s, Int.reduceEq, if_true, if_false, ite_true, ite_false, ↓reduceIte, and_true, true_and, eq_self, Int.add_zero, Int.reduceAdd]; omega) | (simp (disch := omega) only [sA_same, sA_ne, ud_eq, ud_ne, Int.add_zero, Int.reduceAdd]; omega)) | exact o2 (by first | omega | (simp only [sA_same, sA_s, ud_s, Int.reduceEq, if_true, if_false, ite_true, ite_false, ↓reduceIte, and_true, true_and, eq_self, Int.add_zero, Int.reduceAdd]; omega) | (simp (disch := omega) only [sA_same, sA_ne, ud_eq, ud_ne, Int.add_zero, Int.reduceAdd]; omega))
                · refine v_iconst (n := 35) xB_113 dX10_isKindOrUnder_34 ⟨by decide, by decide⟩ rfl ?_
                  refine v_goto (t := 39) xB_113 dX10_isKindOrUnder_35 (by decide) rfl ?_
                  refine v_ireturn1 xB_113 dX10_isKindOrUnder_39 xK_113 (by decide) ?_
                  first | exact o1 (by first | omega | (simp only [sA_same, sA_s, ud_s, Int.reduceEq, if_true, if_false, ite_true, ite_false, ↓reduceIte, and_true, true_and, eq_self, Int.add_zero, Int.reduceAdd]; omega) | (simp (disch := omega) only [sA_same, sA_ne, ud_eq, ud_ne, Int.add_zero, Int.reduceAdd]; omega)) | exact o2 (by first | omega | (simp only [sA_same, sA_s, ud_s, Int.reduceEq, if_true, if_false, ite_true, ite_false, ↓reduceIte, and_true, true_and, eq_self, Int.add_zero, Int.reduceAdd]; omega) | (simp (disch := omega) only [sA_same, sA_ne, ud_eq, ud_ne, Int.add_zero, Int.reduceAdd]; omega))
              · refine v_gst_0 (n := 20) xB_113 dX10_isKindOrUnder_17 xO_113 gs_10_291 rfl ?_
                refine v_iload_n (n := 21) xB_113 dX10_isKindOrUnder_20 rfl rfl ?_
                refine v_iaload (n := 22) (lz := 7) xB_113 dX10_isKindOrUnder_21 (sh_ka _ _ _) rfl (by first | omega | (simp only [sA_same, sA_s, ud_s, Int.reduceEq, if_true, if_false, ite_true, ite_false, ↓reduceIte, and_true, true_and, eq_self, Int.add_zero, Int.reduceAdd]; omega) | (simp (disch := omega) only [sA_same, sA_ne, ud_eq, ud_ne, Int.add_zero, Int.reduceAdd]; omega)) rfl ?_
                (try simp only [K0, K1, K2, K3, K4, K5, K6])
                refine v_istore_n2 (n := 23) xB_113 dX10_isKindOrUnder_22 rfl rfl ?_
                refine v_iinc3 (n := 26) xB_113 dX10_isKindOrUnder_23 rfl (by first | omega | (simp only [sA_same, sA_s, ud_s, Int.reduceEq, if_true, if_false, ite_true, ite_false, ↓reduceIte, and_true, true_and, eq_self, Int.add_zero, Int.reduceAdd]; omega) | (simp (disch := omega) only [sA_same, sA_ne, ud_eq, ud_ne, Int.add_zero, Int.reduceAdd]; omega)) rfl ?_
                refine v_goto (t := 4) xB_113 dX10_isKindOrUnder_26 (by decide) rfl ?_
                refine v_iload_n (n := 5) xB_113 dX10_isKindOrUnder_4 rfl rfl ?_
                refine v_gst_0 (n := 8) xB_113 dX10_isKindOrUnder_5 xO_113 gs_10_291 rfl ?_
                refine v_alen (n := 9) (lz := 7) xB_113 dX10_isKindOrUnder_8 (sh_ka _ _ _) (by decide) rfl rfl ?_
                refine v_ic_ge_n (n := 12) xB_113 dX10_isKindOrUnder_9 (by decide) rfl (by decide) ?_
                refine v_iload_n (n := 13) xB_113 dX10_isKindOrUnder_12 rfl rfl ?_
                refine v_iload_n (n := 14) xB_113 dX10_isKindOrUnder_13 rfl rfl ?_
                refine v_ic_le (t := 29) (n := 17) xB_113 dX10_isKindOrUnder_14 (by decide) rfl rfl (fun g13 => ?_) (fun g13 => ?_)
                · refine v_iload_n (n := 30) xB_113 dX10_isKindOrUnder_29 rfl rfl ?_
                  refine v_iload_n (n := 31) xB_113 dX10_isKindOrUnder_30 rfl rfl ?_
                  refine v_ic_ne (t := 38) (n := 34) xB_113 dX10_isKindOrUnder_31 (by decide) rfl rfl (fun g14 => ?_) (fun g14 => ?_)
                  · refine v_iconst (n := 39) xB_113 dX10_isKindOrUnder_38 ⟨by decide, by decide⟩ rfl ?_
                    refine v_ireturn1 xB_113 dX10_isKindOrUnder_39 xK_113 (by decide) ?_
                    first | exact o1 (by first | omega | (simp only [sA_same, sA_s, ud_s, Int.reduceEq, if_true, if_false, ite_true, ite_false, ↓reduceIte, and_true, true_and, eq_self, Int.add_zero, Int.reduceAdd]; omega) | (simp (disch := omega) only [sA_same, sA_ne, ud_eq, ud_ne, Int.add_zero, Int.reduceAdd]; omega)) | exact o2 (by first | omega | (simp only [sA_same, sA_s, ud_s, Int.reduceEq, if_true, if_false, ite_true, ite_false, ↓reduceIte, and_true, true_and, eq_self, Int.add_zero, Int.reduceAdd]; omega) | (simp (disch := omega) only [sA_same, sA_ne, ud_eq, ud_ne, Int.add_zero, Int.reduceAdd]; omega))
                  · refine v_iconst (n := 35) xB_113 dX10_isKindOrUnder_34 ⟨by decide, by decide⟩ rfl ?_
                    refine v_goto (t := 39) xB_113 dX10_isKindOrUnder_35 (by decide) rfl ?_
                    refine v_ireturn1 xB_113 dX10_isKindOrUnder_39 xK_113 (by decide) ?_
                    first | exact o1 (by first | omega | (simp only [sA_same, sA_s, ud_s, Int.reduceEq, if_true, if_false, ite_true, ite_false, ↓reduceIte, and_true, true_and, eq_self, Int.add_zero, Int.reduceAdd]; omega) | (simp (disch := omega) only [sA_same, sA_ne, ud_eq, ud_ne, Int.add_zero, Int.reduceAdd]; omega)) | exact o2 (by first | omega | (simp only [sA_same, sA_s, ud_s, Int.reduceEq, if_true, if_false, ite_true, ite_false, ↓reduceIte, and_true, true_and, eq_self, Int.add_zero, Int.reduceAdd]; omega) | (simp (disch := omega) only [sA_same, sA_ne, ud_eq, ud_ne, Int.add_zero, Int.reduceAdd]; omega))
                · refine v_gst_0 (n := 20) xB_113 dX10_isKindOrUnder_17 xO_113 gs_10_291 rfl ?_
                  refine v_iload_n (n := 21) xB_113 dX10_isKindOrUnder_20 rfl rfl ?_
                  refine v_iaload (n := 22) (lz := 7) xB_113 dX10_isKindOrUnder_21 (sh_ka _ _ _) rfl (by first | omega | (simp only [sA_same, sA_s, ud_s, Int.reduceEq, if_true, if_false, ite_true, ite_false, ↓reduceIte, and_true, true_and, eq_self, Int.add_zero, Int.reduceAdd]; omega) | (simp (disch := omega) only [sA_same, sA_ne, ud_eq, ud_ne, Int.add_zero, Int.reduceAdd]; omega)) rfl ?_
                  (try simp only [K0, K1, K2, K3, K4, K5, K6])
                  refine v_istore_n2 (n := 23) xB_113 dX10_isKindOrUnder_22 rfl rfl ?_
                  refine v_iinc3 (n := 26) xB_113 dX10_isKindOrUnder_23 rfl (by first | omega | (simp only [sA_same, sA_s, ud_s, Int.reduceEq, if_true, if_false, ite_true, ite_false, ↓reduceIte, and_true, true_and, eq_self, Int.add_zero, Int.reduceAdd]; omega) | (simp (disch := omega) only [sA_same, sA_ne, ud_eq, ud_ne, Int.add_zero, Int.reduceAdd]; omega)) rfl ?_
                  refine v_goto (t := 4) xB_113 dX10_isKindOrUnder_26 (by decide) rfl ?_
                  refine v_iload_n (n := 5) xB_113 dX10_isKindOrUnder_4 rfl rfl ?_
                  refine v_gst_0 (n := 8) xB_113 dX10_isKindOrUnder_5 xO_113 gs_10_291 rfl ?_
                  refine v_alen (n := 9) (lz := 7) xB_113 dX10_isKindOrUnder_8 (sh_ka _ _ _) (by decide) rfl rfl ?_
                  refine v_ic_ge_y (t := 29) xB_113 dX10_isKindOrUnder_9 (by decide) rfl (by decide) ?_
                  refine v_iload_n (n := 30) xB_113 dX10_isKindOrUnder_29 rfl rfl ?_
                  refine v_iload_n (n := 31) xB_113 dX10_isKindOrUnder_30 rfl rfl ?_
                  refine v_ic_ne (t := 38) (n := 34) xB_113 dX10_isKindOrUnder_31 (by decide) rfl rfl (fun g15 => ?_) (fun g15 => ?_)
                  · refine v_iconst (n := 39) xB_113 dX10_isKindOrUnder_38 ⟨by decide, by decide⟩ rfl ?_
                    refine v_ireturn1 xB_113 dX10_isKindOrUnder_39 xK_113 (by decide) ?_
                    first | exact o1 (by first | omega | (simp only [sA_same, sA_s, ud_s, Int.reduceEq, if_true, if_false, ite_true, ite_false, ↓reduceIte, and_true, true_and, eq_self, Int.add_zero, Int.reduceAdd]; omega) | (simp (disch := omega) only [sA_same, sA_ne, ud_eq, ud_ne, Int.add_zero, Int.reduceAdd]; omega)) | exact o2 (by first | omega | (simp only [sA_same, sA_s, ud_s, Int.reduceEq, if_true, if_false, ite_true, ite_false, ↓reduceIte, and_true, true_and, eq_self, Int.add_zero, Int.reduceAdd]; omega) | (simp (disch := omega) only [sA_same, sA_ne, ud_eq, ud_ne, Int.add_zero, Int.reduceAdd]; omega))
                  · refine v_iconst (n := 35) xB_113 dX10_isKindOrUnder_34 ⟨by decide, by decide⟩ rfl ?_
                    refine v_goto (t := 39) xB_113 dX10_isKindOrUnder_35 (by decide) rfl ?_
                    refine v_ireturn1 xB_113 dX10_isKindOrUnder_39 xK_113 (by decide) ?_
                    first | exact o1 (by first | omega | (simp only [sA_same, sA_s, ud_s, Int.reduceEq, if_true, if_false, ite_true, ite_false, ↓reduceIte, and_true, true_and, eq_self, Int.add_zero, Int.reduceAdd]; omega) | (simp (disch := omega) only [sA_same, sA_ne, ud_eq, ud_ne, Int.add_zero, Int.reduceAdd]; omega)) | exact o2 (by first | omega | (simp only [sA_same, sA_s, ud_s, Int.reduceEq, if_true, if_false, ite_true, ite_false, ↓reduceIte, and_true, true_and, eq_self, Int.add_zero, Int.reduceAdd]; omega) | (simp (disch := omega) only [sA_same, sA_ne, ud_eq, ud_ne, Int.add_zero, Int.reduceAdd]; omega))
  · subst hx
    refine v_iload_n (n := 1) xB_113 dX10_isKindOrUnder_0 rfl rfl ?_
    refine v_istore_n2 (n := 2) xB_113 dX10_isKindOrUnder_1 rfl rfl ?_
    refine v_iconst (n := 3) xB_113 dX10_isKindOrUnder_2 ⟨by decide, by decide⟩ rfl ?_
    refine v_istore_n3 (n := 4) xB_113 dX10_isKindOrUnder_3 rfl rfl ?_
    refine v_iload_n (n := 5) xB_113 dX10_isKindOrUnder_4 rfl rfl ?_
    refine v_gst_0 (n := 8) xB_113 dX10_isKindOrUnder_5 xO_113 gs_10_291 rfl ?_
    refine v_alen (n := 9) (lz := 7) xB_113 dX10_isKindOrUnder_8 (sh_ka _ _ _) (by decide) rfl rfl ?_
    refine v_ic_ge_n (n := 12) xB_113 dX10_isKindOrUnder_9 (by decide) rfl (by decide) ?_
    refine v_iload_n (n := 13) xB_113 dX10_isKindOrUnder_12 rfl rfl ?_
    refine v_iload_n (n := 14) xB_113 dX10_isKindOrUnder_13 rfl rfl ?_
    refine v_ic_le (t := 29) (n := 17) xB_113 dX10_isKindOrUnder_14 (by decide) rfl rfl (fun g1 => ?_) (fun g1 => ?_)
    · refine v_iload_n (n := 30) xB_113 dX10_isKindOrUnder_29 rfl rfl ?_
      refine v_iload_n (n := 31) xB_113 dX10_isKindOrUnder_30 rfl rfl ?_
      refine v_ic_ne (t := 38) (n := 34) xB_113 dX10_isKindOrUnder_31 (by decide) rfl rfl (fun g2 => ?_) (fun g2 => ?_)
      · refine v_iconst (n := 39) xB_113 dX10_isKindOrUnder_38 ⟨by decide, by decide⟩ rfl ?_
        refine v_ireturn1 xB_113 dX10_isKindOrUnder_39 xK_113 (by decide) ?_
        first | exact o1 (by first | omega | (simp only [sA_same, sA_s, ud_s, Int.reduceEq, if_true, if_false, ite_true, ite_false, ↓reduceIte, and_true, true_and, eq_self, Int.add_zero, Int.reduceAdd]; omega) | (simp (disch := omega) only [sA_same, sA_ne, ud_eq, ud_ne, Int.add_zero, Int.reduceAdd]; omega)) | exact o2 (by first | omega | (simp only [sA_same, sA_s, ud_s, Int.reduceEq, if_true, if_false, ite_true, ite_false, ↓reduceIte, and_true, true_and, eq_self, Int.add_zero, Int.reduceAdd]; omega) | (simp (disch := omega) only [sA_same, sA_ne, ud_eq, ud_ne, Int.add_zero, Int.reduceAdd]; omega))
      · refine v_iconst (n := 35) xB_113 dX10_isKindOrUnder_34 ⟨by decide, by decide⟩ rfl ?_
        refine v_goto (t := 39) xB_113 dX10_isKindOrUnder_35 (by decide) rfl ?_
        refine v_ireturn1 xB_113 dX10_isKindOrUnder_39 xK_113 (by decide) ?_
        first | exact o1 (by first | omega | (simp only [sA_same, sA_s, ud_s, Int.reduceEq, if_true, if_false, ite_true, ite_false, ↓reduceIte, and_true, true_and, eq_self, Int.add_zero, Int.reduceAdd]; omega) | (simp (disch := omega) only [sA_same, sA_ne, ud_eq, ud_ne, Int.add_zero, Int.reduceAdd]; omega)) | exact o2 (by first | omega | (simp only [sA_same, sA_s, ud_s, Int.reduceEq, if_true, if_false, ite_true, ite_false, ↓reduceIte, and_true, true_and, eq_self, Int.add_zero, Int.reduceAdd]; omega) | (simp (disch := omega) only [sA_same, sA_ne, ud_eq, ud_ne, Int.add_zero, Int.reduceAdd]; omega))
    · refine v_gst_0 (n := 20) xB_113 dX10_isKindOrUnder_17 xO_113 gs_10_291 rfl ?_
      refine v_iload_n (n := 21) xB_113 dX10_isKindOrUnder_20 rfl rfl ?_
      refine v_iaload (n := 22) (lz := 7) xB_113 dX10_isKindOrUnder_21 (sh_ka _ _ _) rfl (by first | omega | (simp only [sA_same, sA_s, ud_s, Int.reduceEq, if_true, if_false, ite_true, ite_false, ↓reduceIte, and_true, true_and, eq_self, Int.add_zero, Int.reduceAdd]; omega) | (simp (disch := omega) only [sA_same, sA_ne, ud_eq, ud_ne, Int.add_zero, Int.reduceAdd]; omega)) rfl ?_
      (try simp only [K0, K1, K2, K3, K4, K5, K6])
      refine v_istore_n2 (n := 23) xB_113 dX10_isKindOrUnder_22 rfl rfl ?_
      refine v_iinc3 (n := 26) xB_113 dX10_isKindOrUnder_23 rfl (by first | omega | (simp only [sA_same, sA_s, ud_s, Int.reduceEq, if_true, if_false, ite_true, ite_false, ↓reduceIte, and_true, true_and, eq_self, Int.add_zero, Int.reduceAdd]; omega) | (simp (disch := omega) only [sA_same, sA_ne, ud_eq, ud_ne, Int.add_zero, Int.reduceAdd]; omega)) rfl ?_
      refine v_goto (t := 4) xB_113 dX10_isKindOrUnder_26 (by decide) rfl ?_
      refine v_iload_n (n := 5) xB_113 dX10_isKindOrUnder_4 rfl rfl ?_
      refine v_gst_0 (n := 8) xB_113 dX10_isKindOrUnder_5 xO_113 gs_10_291 rfl ?_
      refine v_alen (n := 9) (lz := 7) xB_113 dX10_isKindOrUnder_8 (sh_ka _ _ _) (by decide) rfl rfl ?_
      refine v_ic_ge_n (n := 12) xB_113 dX10_isKindOrUnder_9 (by decide) rfl (by decide) ?_
      refine v_iload_n (n := 13) xB_113 dX10_isKindOrUnder_12 rfl rfl ?_
      refine v_iload_n (n := 14) xB_113 dX10_isKindOrUnder_13 rfl rfl ?_
      refine v_ic_le (t := 29) (n := 17) xB_113 dX10_isKindOrUnder_14 (by decide) rfl rfl (fun g3 => ?_) (fun g3 => ?_)
      · refine v_iload_n (n := 30) xB_113 dX10_isKindOrUnder_29 rfl rfl ?_
        refine v_iload_n (n := 31) xB_113 dX10_isKindOrUnder_30 rfl rfl ?_
        refine v_ic_ne (t := 38) (n := 34) xB_113 dX10_isKindOrUnder_31 (by decide) rfl rfl (fun g4 => ?_) (fun g4 => ?_)
        · refine v_iconst (n := 39) xB_113 dX10_isKindOrUnder_38 ⟨by decide, by decide⟩ rfl ?_
          refine v_ireturn1 xB_113 dX10_isKindOrUnder_39 xK_113 (by decide) ?_
          first | exact o1 (by first | omega | (simp only [sA_same, sA_s, ud_s, Int.reduceEq, if_true, if_false, ite_true, ite_false, ↓reduceIte, and_true, true_and, eq_self, Int.add_zero, Int.reduceAdd]; omega) | (simp (disch := omega) only [sA_same, sA_ne, ud_eq, ud_ne, Int.add_zero, Int.reduceAdd]; omega)) | exact o2 (by first | omega | (simp only [sA_same, sA_s, ud_s, Int.reduceEq, if_true, if_false, ite_true, ite_false, ↓reduceIte, and_true, true_and, eq_self, Int.add_zero, Int.reduceAdd]; omega) | (simp (disch := omega) only [sA_same, sA_ne, ud_eq, ud_ne, Int.add_zero, Int.reduceAdd]; omega))
        · refine v_iconst (n := 35) xB_113 dX10_isKindOrUnder_34 ⟨by decide, by decide⟩ rfl ?_
          refine v_goto (t := 39) xB_113 dX10_isKindOrUnder_35 (by decide) rfl ?_
          refine v_ireturn1 xB_113 dX10_isKindOrUnder_39 xK_113 (by decide) ?_
          first | exact o1 (by first | omega | (simp only [sA_same, sA_s, ud_s, Int.reduceEq, if_true, if_false, ite_true, ite_false, ↓reduceIte, and_true, true_and, eq_self, Int.add_zero, Int.reduceAdd]; omega) | (simp (disch := omega) only [sA_same, sA_ne, ud_eq, ud_ne, Int.add_zero, Int.reduceAdd]; omega)) | exact o2 (by first | omega | (simp only [sA_same, sA_s, ud_s, Int.reduceEq, if_true, if_false, ite_true, ite_false, ↓reduceIte, and_true, true_and, eq_self, Int.add_zero, Int.reduceAdd]; omega) | (simp (disch := omega) only [sA_same, sA_ne, ud_eq, ud_ne, Int.add_zero, Int.reduceAdd]; omega))
      · refine v_gst_0 (n := 20) xB_113 dX10_isKindOrUnder_17 xO_113 gs_10_291 rfl ?_
        refine v_iload_n (n := 21) xB_113 dX10_isKindOrUnder_20 rfl rfl ?_
        refine v_iaload (n := 22) (lz := 7) xB_113 dX10_isKindOrUnder_21 (sh_ka _ _ _) rfl (by first | omega | (simp only [sA_same, sA_s, ud_s, Int.reduceEq, if_true, if_false, ite_true, ite_false, ↓reduceIte, and_true, true_and, eq_self, Int.add_zero, Int.reduceAdd]; omega) | (simp (disch := omega) only [sA_same, sA_ne, ud_eq, ud_ne, Int.add_zero, Int.reduceAdd]; omega)) rfl ?_
        (try simp only [K0, K1, K2, K3, K4, K5, K6])
        refine v_istore_n2 (n := 23) xB_113 dX10_isKindOrUnder_22 rfl rfl ?_
        refine v_iinc3 (n := 26) xB_113 dX10_isKindOrUnder_23 rfl (by first | omega | (simp only [sA_same, sA_s, ud_s, Int.reduceEq, if_true, if_false, ite_true, ite_false, ↓reduceIte, and_true, true_and, eq_self, Int.add_zero, Int.reduceAdd]; omega) | (simp (disch := omega) only [sA_same, sA_ne, ud_eq, ud_ne, Int.add_zero, Int.reduceAdd]; omega)) rfl ?_
        refine v_goto (t := 4) xB_113 dX10_isKindOrUnder_26 (by decide) rfl ?_
        refine v_iload_n (n := 5) xB_113 dX10_isKindOrUnder_4 rfl rfl ?_
        refine v_gst_0 (n := 8) xB_113 dX10_isKindOrUnder_5 xO_113 gs_10_291 rfl ?_
        refine v_alen (n := 9) (lz := 7) xB_113 dX10_isKindOrUnder_8 (sh_ka _ _ _) (by decide) rfl rfl ?_
        refine v_ic_ge_n (n := 12) xB_113 dX10_isKindOrUnder_9 (by decide) rfl (by decide) ?_
        refine v_iload_n (n := 13) xB_113 dX10_isKindOrUnder_12 rfl rfl ?_
        refine v_iload_n (n := 14) xB_113 dX10_isKindOrUnder_13 rfl rfl ?_
        refine v_ic_le (t := 29) (n := 17) xB_113 dX10_isKindOrUnder_14 (by decide) rfl rfl (fun g5 => ?_) (fun g5 => ?_)
        · refine v_iload_n (n := 30) xB_113 dX10_isKindOrUnder_29 rfl rfl ?_
          refine v_iload_n (n := 31) xB_113 dX10_isKindOrUnder_30 rfl rfl ?_
          refine v_ic_ne (t := 38) (n := 34) xB_113 dX10_isKindOrUnder_31 (by decide) rfl rfl (fun g6 => ?_) (fun g6 => ?_)
          · refine v_iconst (n := 39) xB_113 dX10_isKindOrUnder_38 ⟨by decide, by decide⟩ rfl ?_
            refine v_ireturn1 xB_113 dX10_isKindOrUnder_39 xK_113 (by decide) ?_
            first | exact o1 (by first | omega | (simp only [sA_same, sA_s, ud_s, Int.reduceEq, if_true, if_false, ite_true, ite_false, ↓reduceIte, and_true, true_and, eq_self, Int.add_zero, Int.reduceAdd]; omega) | (simp (disch := omega) only [sA_same, sA_ne, ud_eq, ud_ne, Int.add_zero, Int.reduceAdd]; omega)) | exact o2 (by first | omega | (simp only [sA_same, sA_s, ud_s, Int.reduceEq, if_true, if_false, ite_true, ite_false, ↓reduceIte, and_true, true_and, eq_self, Int.add_zero, Int.reduceAdd]; omega) | (simp (disch := omega) only [sA_same, sA_ne, ud_eq, ud_ne, Int.add_zero, Int.reduceAdd]; omega))
          · refine v_iconst (n := 35) xB_113 dX10_isKindOrUnder_34 ⟨by decide, by decide⟩ rfl ?_
            refine v_goto (t := 39) xB_113 dX10_isKindOrUnder_35 (by decide) rfl ?_
            refine v_ireturn1 xB_113 dX10_isKindOrUnder_39 xK_113 (by decide) ?_
            first | exact o1 (by first | omega | (simp only [sA_same, sA_s, ud_s, Int.reduceEq, if_true, if_false, ite_true, ite_false, ↓reduceIte, and_true, true_and, eq_self, Int.add_zero, Int.reduceAdd]; omega) | (simp (disch := omega) only [sA_same, sA_ne, ud_eq, ud_ne, Int.add_zero, Int.reduceAdd]; omega)) | exact o2 (by first | omega | (simp only [sA_same, sA_s, ud_s, Int.reduceEq, if_true, if_false, ite_true, ite_false, ↓reduceIte, and_true, true_and, eq_self, Int.add_zero, Int.reduceAdd]; omega) | (simp (disch := omega) only [sA_same, sA_ne, ud_eq, ud_ne, Int.add_zero, Int.reduceAdd]; omega))
        · refine v_gst_0 (n := 20) xB_113 dX10_isKindOrUnder_17 xO_113 gs_10_291 rfl ?_
          refine v_iload_n (n := 21) xB_113 dX10_isKindOrUnder_20 rfl rfl ?_
          refine v_iaload (n := 22) (lz := 7) xB_113 dX10_isKindOrUnder_21 (sh_ka _ _ _) rfl (by first | omega | (simp only [sA_same, sA_s, ud_s, Int.reduceEq, if_true, if_false, ite_true, ite_false, ↓reduceIte, and_true, true_and, eq_self, Int.add_zero, Int.reduceAdd]; omega) | (simp (disch := omega) only [sA_same, sA_ne, ud_eq, ud_ne, Int.add_zero, Int.reduceAdd]; omega)) rfl ?_
          (try simp only [K0, K1, K2, K3, K4, K5, K6])
          refine v_istore_n2 (n := 23) xB_113 dX10_isKindOrUnder_22 rfl rfl ?_
          refine v_iinc3 (n := 26) xB_113 dX10_isKindOrUnder_23 rfl (by first | omega | (simp only [sA_same, sA_s, ud_s, Int.reduceEq, if_true, if_false, ite_true, ite_false, ↓reduceIte, and_true, true_and, eq_self, Int.add_zero, Int.reduceAdd]; omega) | (simp (disch := omega) only [sA_same, sA_ne, ud_eq, ud_ne, Int.add_zero, Int.reduceAdd]; omega)) rfl ?_
          refine v_goto (t := 4) xB_113 dX10_isKindOrUnder_26 (by decide) rfl ?_
          refine v_iload_n (n := 5) xB_113 dX10_isKindOrUnder_4 rfl rfl ?_
          refine v_gst_0 (n := 8) xB_113 dX10_isKindOrUnder_5 xO_113 gs_10_291 rfl ?_
          refine v_alen (n := 9) (lz := 7) xB_113 dX10_isKindOrUnder_8 (sh_ka _ _ _) (by decide) rfl rfl ?_
          refine v_ic_ge_n (n := 12) xB_113 dX10_isKindOrUnder_9 (by decide) rfl (by decide) ?_
          refine v_iload_n (n := 13) xB_113 dX10_isKindOrUnder_12 rfl rfl ?_
          refine v_iload_n (n := 14) xB_113 dX10_isKindOrUnder_13 rfl rfl ?_
          refine v_ic_le (t := 29) (n := 17) xB_113 dX10_isKindOrUnder_14 (by decide) rfl rfl (fun g7 => ?_) (fun g7 => ?_)
          · refine v_iload_n (n := 30) xB_113 dX10_isKindOrUnder_29 rfl rfl ?_
            refine v_iload_n (n := 31) xB_113 dX10_isKindOrUnder_30 rfl rfl ?_
            refine v_ic_ne (t := 38) (n := 34) xB_113 dX10_isKindOrUnder_31 (by decide) rfl rfl (fun g8 => ?_) (fun g8 => ?_)
            · refine v_iconst (n := 39) xB_113 dX10_isKindOrUnder_38 ⟨by decide, by decide⟩ rfl ?_
              refine v_ireturn1 xB_113 dX10_isKindOrUnder_39 xK_113 (by decide) ?_
              first | exact o1 (by first | omega | (simp only [sA_same, sA_s, ud_s, Int.reduceEq, if_true, if_false, ite_true, ite_false, ↓reduceIte, and_true, true_and, eq_self, Int.add_zero, Int.reduceAdd]; omega) | (simp (disch := omega) only [sA_same, sA_ne, ud_eq, ud_ne, Int.add_zero, Int.reduceAdd]; omega)) | exact o2 (by first | omega | (simp only [sA_same, sA_s, ud_s, Int.reduceEq, if_true, if_false, ite_true, ite_false, ↓reduceIte, and_true, true_and, eq_self, Int.add_zero, Int.reduceAdd]; omega) | (simp (disch := omega) only [sA_same, sA_ne, ud_eq, ud_ne, Int.add_zero, Int.reduceAdd]; omega))
            · refine v_iconst (n := 35) xB_113 dX10_isKindOrUnder_34 ⟨by decide, by decide⟩ rfl ?_
              refine v_goto (t := 39) xB_113 dX10_isKindOrUnder_35 (by decide) rfl ?_
              refine v_ireturn1 xB_113 dX10_isKindOrUnder_39 xK_113 (by decide) ?_
              first | exact o1 (by first | omega | (simp only [sA_same, sA_s, ud_s, Int.reduceEq, if_true, if_false, ite_true, ite_false, ↓reduceIte, and_true, true_and, eq_self, Int.add_zero, Int.reduceAdd]; omega) | (simp (disch := omega) only [sA_same, sA_ne, ud_eq, ud_ne, Int.add_zero, Int.reduceAdd]; omega)) | exact o2 (by first | omega | (simp only [sA_same, sA_s, ud_s, Int.reduceEq, if_true, if_false, ite_true, ite_false, ↓reduceIte, and_true, true_and, eq_self, Int.add_zero, Int.reduceAdd]; omega) | (simp (disch := omega) only [sA_same, sA_ne, ud_eq, ud_ne, Int.add_zero, Int.reduceAdd]; omega))
          · refine v_gst_0 (n := 20) xB_113 dX10_isKindOrUnder_17 xO_113 gs_10_291 rfl ?_
            refine v_iload_n (n := 21) xB_113 dX10_isKindOrUnder_20 rfl rfl ?_
            refine v_iaload (n := 22) (lz := 7) xB_113 dX10_isKindOrUnder_21 (sh_ka _ _ _) rfl (by first | omega | (simp only [sA_same, sA_s, ud_s, Int.reduceEq, if_true, if_false, ite_true, ite_false, ↓reduceIte, and_true, true_and, eq_self, Int.add_zero, Int.reduceAdd]; omega) | (simp (disch := omega) only [sA_same, sA_ne, ud_eq, ud_ne, Int.add_zero, Int.reduceAdd]; omega)) rfl ?_
            (try simp only [K0, K1, K2, K3, K4, K5, K6])
            refine v_istore_n2 (n := 23) xB_113 dX10_isKindOrUnder_22 rfl rfl ?_
            refine v_iinc3 (n := 26) xB_113 dX10_isKindOrUnder_23 rfl (by first | omega | (simp only [sA_same, sA_s, ud_s, Int.reduceEq, if_true, if_false, ite_true, ite_false, ↓reduceIte, and_true, true_and, eq_self, Int.add_zero, Int.reduceAdd]; omega) | (simp (disch := omega) only [sA_same, sA_ne, ud_eq, ud_ne, Int.add_zero, Int.reduceAdd]; omega)) rfl ?_
            refine v_goto (t := 4) xB_113 dX10_isKindOrUnder_26 (by decide) rfl ?_
            refine v_iload_n (n := 5) xB_113 dX10_isKindOrUnder_4 rfl rfl ?_
            refine v_gst_0 (n := 8) xB_113 dX10_isKindOrUnder_5 xO_113 gs_10_291 rfl ?_
            refine v_alen (n := 9) (lz := 7) xB_113 dX10_isKindOrUnder_8 (sh_ka _ _ _) (by decide) rfl rfl ?_
            refine v_ic_ge_n (n := 12) xB_113 dX10_isKindOrUnder_9 (by decide) rfl (by decide) ?_
            refine v_iload_n (n := 13) xB_113 dX10_isKindOrUnder_12 rfl rfl ?_
            refine v_iload_n (n := 14) xB_113 dX10_isKindOrUnder_13 rfl rfl ?_
            refine v_ic_le (t := 29) (n := 17) xB_113 dX10_isKindOrUnder_14 (by decide) rfl rfl (fun g9 => ?_) (fun g9 => ?_)
            · refine v_iload_n (n := 30) xB_113 dX10_isKindOrUnder_29 rfl rfl ?_
              refine v_iload_n (n := 31) xB_113 dX10_isKindOrUnder_30 rfl rfl ?_
              refine v_ic_ne (t := 38) (n := 34) xB_113 dX10_isKindOrUnder_31 (by decide) rfl rfl (fun g10 => ?_) (fun g10 => ?_)
              · refine v_iconst (n := 39) xB_113 dX10_isKindOrUnder_38 ⟨by decide, by decide⟩ rfl ?_
                refine v_ireturn1 xB_113 dX10_isKindOrUnder_39 xK_113 (by decide) ?_
                first | exact o1 (by first | omega | (simp only [sA_same, sA_s, ud_s, Int.reduceEq, if_true, if_false, ite_true, ite_false, ↓reduceIte, and_true, true_and, eq_self, Int.add_zero, Int.reduceAdd]; omega) | (simp (disch := omega) only [sA_same, sA_ne, ud_eq, ud_ne, Int.add_zero, Int.reduceAdd]; omega)) | exact o2 (by first | omega | (simp only [sA_same, sA_s, ud_s, Int.reduceEq, if_true, if_false, ite_true, ite_false, ↓reduceIte, and_true, true_and, eq_self, Int.add_zero, Int.reduceAdd]; omega) | (simp (disch := omega) only [sA_same, sA_ne, ud_eq, ud_ne, Int.add_zero, Int.reduceAdd]; omega))
              · refine v_iconst (n := 35) xB_113 dX10_isKindOrUnder_34 ⟨by decide, by decide⟩ rfl ?_
                refine v_goto (t := 39) xB_113 dX10_isKindOrUnder_35 (by decide) rfl ?_
                refine v_ireturn1 xB_113 dX10_isKindOrUnder_39 xK_113 (by decide) ?_
                first | exact o1 (by first | omega | (simp only [sA_same, sA_s, ud_s, Int.reduceEq, if_true, if_false, ite_true, ite_false, ↓reduceIte, and_true, true_and, eq_self, Int.add_zero, Int.reduceAdd]; omega) | (simp (disch := omega) only [sA_same, sA_ne, ud_eq, ud_ne, Int.add_zero, Int.reduceAdd]; omega)) | exact o2 (by first | omega | (simp only [sA_same, sA_s, ud_s, Int.reduceEq, if_true, if_false, ite_true, ite_false, ↓reduceIte, and_true, true_and, eq_self, Int.add_zero, Int.reduceAdd]; omega) | (simp (disch := omega) only [sA_same, sA_ne, ud_eq, ud_ne, Int.add_zero, Int.reduceAdd]; omega))
            · refine v_gst_0 (n := 20) xB_113 dX10_isKindOrUnder_17 xO_113 gs_10_291 rfl ?_
              refine v_iload_n (n := 21) xB_113 dX10_isKindOrUnder_20 rfl rfl ?_
              refine v_iaload (n := 22) (lz := 7) xB_113 dX10_isKindOrUnder_21 (sh_ka _ _ _) rfl (by first | omega | (simp only [sA_same, sA_s, ud_s, Int.reduceEq, if_true, if_false, ite_true, ite_false, ↓reduceIte, and_true, true_and, eq_self, Int.add_zero, Int.reduceAdd]; omega) | (simp (disch := omega) only [sA_same, sA_ne, ud_eq, ud_ne, Int.add_zero, Int.reduceAdd]; omega)) rfl ?_
              (try simp only [K0, K1, K2, K3, K4, K5, K6])
              refine v_istore_n2 (n := 23) xB_113 dX10_isKindOrUnder_22 rfl rfl ?_
              refine v_iinc3 (n := 26) xB_113 dX10_isKindOrUnder_23 rfl (by first | omega | (simp only [sA_same, sA_s, ud_s, Int.reduceEq, if_true, if_false, ite_true, ite_false, ↓reduceIte, and_true, true_and, eq_self, Int.add_zero, Int.reduceAdd]; omega) | (simp (disch := omega) only [sA_same, sA_ne, ud_eq, ud_ne, Int.add_zero, Int.reduceAdd]; omega)) rfl ?_
              refine v_goto (t := 4) xB_113 dX10_isKindOrUnder_26 (by decide) rfl ?_
              refine v_iload_n (n := 5) xB_113 dX10_isKindOrUnder_4 rfl rfl ?_
              refine v_gst_0 (n := 8) xB_113 dX10_isKindOrUnder_5 xO_113 gs_10_291 rfl ?_
              refine v_alen (n := 9) (lz := 7) xB_113 dX10_isKindOrUnder_8 (sh_ka _ _ _) (by decide) rfl rfl ?_
              refine v_ic_ge_n (n := 12) xB_113 dX10_isKindOrUnder_9 (by decide) rfl (by decide) ?_
              refine v_iload_n (n := 13) xB_113 dX10_isKindOrUnder_12 rfl rfl ?_
              refine v_iload_n (n := 14) xB_113 dX10_isKindOrUnder_13 rfl rfl ?_
              refine v_ic_le (t := 29) (n := 17) xB_113 dX10_isKindOrUnder_14 (by decide) rfl rfl (fun g11 => ?_) (fun g11 => ?_)
              · refine v_iload_n (n := 30) xB_113 dX10_isKindOrUnder_29 rfl rfl ?_
                refine v_iload_n (n := 31) xB_113 dX10_isKindOrUnder_30 rfl rfl ?_
                refine v_ic_ne (t := 38) (n := 34) xB_113 dX10_isKindOrUnder_31 (by decide) rfl rfl (fun g12 => ?_) (fun g12 => ?_)
                · refine v_iconst (n := 39) xB_113 dX10_isKindOrUnder_38 ⟨by decide, by decide⟩ rfl ?_
                  refine v_ireturn1 xB_113 dX10_isKindOrUnder_39 xK_113 (by decide) ?_
                  first | exact o1 (by first | omega | (simp only [sA_same, sA_s, ud_s, Int.reduceEq, if_true, if_false, ite_true, ite_false, ↓reduceIte, and_true, true_and, eq_self, Int.add_zero, Int.reduceAdd]; omega) | (simp (disch := omega) only [sA_same, sA_ne, ud_eq, ud_ne, Int.add_zero, Int.reduceAdd]; omega)) | exact o2 (by first | omega | (simp only [sA_same, sA_s, ud_s, Int.reduceEq, if_true, if_false, ite_true, ite_false, ↓reduceIte, and_true, true_and, eq_self, Int.add_zero, Int.reduceAdd]; omega) | (simp (disch := omega) only [sA_same, sA_ne, ud_eq, ud_ne, Int.add_zero, Int.reduceAdd]; omega))
                · refine v_iconst (n := 35) xB_113 dX10_isKindOrUnder_34 ⟨by decide, by decide⟩ rfl ?_
                  refine v_goto (t := 39) xB_113 dX10_isKindOrUnder_35 (by decide) rfl ?_
                  refine v_ireturn1 xB_113 dX10_isKindOrUnder_39 xK_113 (by decide) ?_
                  first | exact o1 (by first | omega | (simp only [sA_same, sA_s, ud_s, Int.reduceEq, if_true, if_false, ite_true, ite_false, ↓reduceIte, and_true, true_and, eq_self, Int.add_zero, Int.reduceAdd]; omega) | (simp (disch := omega) only [sA_same, sA_ne, ud_eq, ud_ne, Int.add_zero, Int.reduceAdd]; omega)) | exact o2 (by first | omega | (simp only [sA_same, sA_s, ud_s, Int.reduceEq, if_true, if_false, ite_true, ite_false, ↓reduceIte, and_true, true_and, eq_self, Int.add_zero, Int.reduceAdd]; omega) | (simp (disch := omega) only [sA_same, sA_ne, ud_eq, ud_ne, Int.add_zero, Int.reduceAdd]; omega))
              · refine v_gst_0 (n := 20) xB_113 dX10_isKindOrUnder_17 xO_113 gs_10_291 rfl ?_
                refine v_iload_n (n := 21) xB_113 dX10_isKindOrUnder_20 rfl rfl ?_
                refine v_iaload (n := 22) (lz := 7) xB_113 dX10_isKindOrUnder_21 (sh_ka _ _ _) rfl (by first | omega | (simp only [sA_same, sA_s, ud_s, Int.reduceEq, if_true, if_false, ite_true, ite_false, ↓reduceIte, and_true, true_and, eq_self, Int.add_zero, Int.reduceAdd]; omega) | (simp (disch := omega) only [sA_same, sA_ne, ud_eq, ud_ne, Int.add_zero, Int.reduceAdd]; omega)) rfl ?_
                (try simp only [K0, K1, K2, K3, K4, K5, K6])
                refine v_istore_n2 (n := 23) xB_113 dX10_isKindOrUnder_22 rfl rfl ?_
                refine v_iinc3 (n := 26) xB_113 dX10_isKindOrUnder_23 rfl (by first | omega | (simp only [sA_same, sA_s, ud_s, Int.reduceEq, if_true, if_false, ite_true, ite_false, ↓reduceIte, and_true, true_and, eq_self, Int.add_zero, Int.reduceAdd]; omega) | (simp (disch := omega) only [sA_same, sA_ne, ud_eq, ud_ne, Int.add_zero, Int.reduceAdd]; omega)) rfl ?_
                refine v_goto (t := 4) xB_113 dX10_isKindOrUnder_26 (by decide) rfl ?_
                refine v_iload_n (n := 5) xB_113 dX10_isKindOrUnder_4 rfl rfl ?_
                refine v_gst_0 (n := 8) xB_113 dX10_isKindOrUnder_5 xO_113 gs_10_291 rfl ?_
                refine v_alen (n := 9) (lz := 7) xB_113 dX10_isKindOrUnder_8 (sh_ka _ _ _) (by decide) rfl rfl ?_
                refine v_ic_ge_n (n := 12) xB_113 dX10_isKindOrUnder_9 (by decide) rfl (by decide) ?_
                refine v_iload_n (n := 13) xB_113 dX10_isKindOrUnder_12 rfl rfl ?_
                refine v_iload_n (n := 14) xB_113 dX10_isKindOrUnder_13 rfl rfl ?_
                refine v_ic_le (t := 29) (n := 17) xB_113 dX10_isKindOrUnder_14 (by decide) rfl rfl (fun g13 => ?_) (fun g13 => ?_)
                · refine v_iload_n (n := 30) xB_113 dX10_isKindOrUnder_29 rfl rfl ?_
                  refine v_iload_n (n := 31) xB_113 dX10_isKindOrUnder_30 rfl rfl ?_
                  refine v_ic_ne (t := 38) (n := 34) xB_113 dX10_isKindOrUnder_31 (by decide) rfl rfl (fun g14 => ?_) (fun g14 => ?_)
                  · refine v_iconst (n := 39) xB_113 dX10_isKindOrUnder_38 ⟨by decide, by decide⟩ rfl ?_
                    refine v_ireturn1 xB_113 dX10_isKindOrUnder_39 xK_113 (by decide) ?_
                    first | exact o1 (by first | omega | (simp only [sA_same, sA_s, ud_s, Int.reduceEq, if_true, if_false, ite_true, ite_false, ↓reduceIte, and_true, true_and, eq_self, Int.add_zero, Int.reduceAdd]; omega) | (simp (disch := omega) only [sA_same, sA_ne, ud_eq, ud_ne, Int.add_zero, Int.reduceAdd]; omega)) | exact o2 (by first | omega | (simp only [sA_same, sA_s, ud_s, Int.reduceEq, if_true, if_false, ite_true, ite_false, ↓reduceIte, and_true, true_and, eq_self, Int.add_zero, Int.reduceAdd]; omega) | (simp (disch := omega) only [sA_same, sA_ne, ud_eq, ud_ne, Int.add_zero, Int.reduceAdd]; omega))
                  · refine v_iconst (n := 35) xB_113 dX10_isKindOrUnder_34 ⟨by decide, by decide⟩ rfl ?_
                    refine v_goto (t := 39) xB_113 dX10_isKindOrUnder_35 (by decide) rfl ?_
                    refine v_ireturn1 xB_113 dX10_isKindOrUnder_39 xK_113 (by decide) ?_
                    first | exact o1 (by first | omega | (simp only [sA_same, sA_s, ud_s, Int.reduceEq, if_true, if_false, ite_true, ite_false, ↓reduceIte, and_true, true_and, eq_self, Int.add_zero, Int.reduceAdd]; omega) | (simp (disch := omega) only [sA_same, sA_ne, ud_eq, ud_ne, Int.add_zero, Int.reduceAdd]; omega)) | exact o2 (by first | omega | (simp only [sA_same, sA_s, ud_s, Int.reduceEq, if_true, if_false, ite_true, ite_false, ↓reduceIte, and_true, true_and, eq_self, Int.add_zero, Int.reduceAdd]; omega) | (simp (disch := omega) only [sA_same, sA_ne, ud_eq, ud_ne, Int.add_zero, Int.reduceAdd]; omega))
                · refine v_gst_0 (n := 20) xB_113 dX10_isKindOrUnder_17 xO_113 gs_10_291 rfl ?_
                  refine v_iload_n (n := 21) xB_113 dX10_isKindOrUnder_20 rfl rfl ?_
                  refine v_iaload (n := 22) (lz := 7) xB_113 dX10_isKindOrUnder_21 (sh_ka _ _ _) rfl (by first | omega | (simp only [sA_same, sA_s, ud_s, Int.reduceEq, if_true, if_false, ite_true, ite_false, ↓reduceIte, and_true, true_and, eq_self, Int.add_zero, Int.reduceAdd]; omega) | (simp (disch := omega) only [sA_same, sA_ne, ud_eq, ud_ne, Int.add_zero, Int.reduceAdd]; omega)) rfl ?_
                  (try simp only [K0, K1, K2, K3, K4, K5, K6])
                  refine v_istore_n2 (n := 23) xB_113 dX10_isKindOrUnder_22 rfl rfl ?_
                  refine v_iinc3 (n := 26) xB_113 dX10_isKindOrUnder_23 rfl (by first | omega | (simp only [sA_same, sA_s, ud_s, Int.reduceEq, if_true, if_false, ite_true, ite_false, ↓reduceIte, and_true, true_and, eq_self, Int.add_zero, Int.reduceAdd]; omega) | (simp (disch := omega) only [sA_same, sA_ne, ud_eq, ud_ne, Int.add_zero, Int.reduceAdd]; omega)) rfl ?_
                  refine v_goto (t := 4) xB_113 dX10_isKindOrUnder_26 (by decide) rfl ?_
                  refine v_iload_n (n := 5) xB_113 dX10_isKindOrUnder_4 rfl rfl ?_
                  refine v_gst_0 (n := 8) xB_113 dX10_isKindOrUnder_5 xO_113 gs_10_291 rfl ?_
                  refine v_alen (n := 9) (lz := 7) xB_113 dX10_isKindOrUnder_8 (sh_ka _ _ _) (by decide) rfl rfl ?_
                  refine v_ic_ge_y (t := 29) xB_113 dX10_isKindOrUnder_9 (by decide) rfl (by decide) ?_
                  refine v_iload_n (n := 30) xB_113 dX10_isKindOrUnder_29 rfl rfl ?_
                  refine v_iload_n (n := 31) xB_113 dX10_isKindOrUnder_30 rfl rfl ?_
                  refine v_ic_ne (t := 38) (n := 34) xB_113 dX10_isKindOrUnder_31 (by decide) rfl rfl (fun g15 => ?_) (fun g15 => ?_)
                  · refine v_iconst (n := 39) xB_113 dX10_isKindOrUnder_38 ⟨by decide, by decide⟩ rfl ?_
                    refine v_ireturn1 xB_113 dX10_isKindOrUnder_39 xK_113 (by decide) ?_
                    first | exact o1 (by first | omega | (simp only [sA_same, sA_s, ud_s, Int.reduceEq, if_true, if_false, ite_true, ite_false, ↓reduceIte, and_true, true_and, eq_self, Int.add_zero, Int.reduceAdd]; omega) | (simp (disch := omega) only [sA_same, sA_ne, ud_eq, ud_ne, Int.add_zero, Int.reduceAdd]; omega)) | exact o2 (by first | omega | (simp only [sA_same, sA_s, ud_s, Int.reduceEq, if_true, if_false, ite_true, ite_false, ↓reduceIte, and_true, true_and, eq_self, Int.add_zero, Int.reduceAdd]; omega) | (simp (disch := omega) only [sA_same, sA_ne, ud_eq, ud_ne, Int.add_zero, Int.reduceAdd]; omega))
                  · refine v_iconst (n := 35) xB_113 dX10_isKindOrUnder_34 ⟨by decide, by decide⟩ rfl ?_
                    refine v_goto (t := 39) xB_113 dX10_isKindOrUnder_35 (by decide) rfl ?_
                    refine v_ireturn1 xB_113 dX10_isKindOrUnder_39 xK_113 (by decide) ?_
                    first | exact o1 (by first | omega | (simp only [sA_same, sA_s, ud_s, Int.reduceEq, if_true, if_false, ite_true, ite_false, ↓reduceIte, and_true, true_and, eq_self, Int.add_zero, Int.reduceAdd]; omega) | (simp (disch := omega) only [sA_same, sA_ne, ud_eq, ud_ne, Int.add_zero, Int.reduceAdd]; omega)) | exact o2 (by first | omega | (simp only [sA_same, sA_s, ud_s, Int.reduceEq, if_true, if_false, ite_true, ite_false, ↓reduceIte, and_true, true_and, eq_self, Int.add_zero, Int.reduceAdd]; omega) | (simp (disch := omega) only [sA_same, sA_ne, ud_eq, ud_ne, Int.add_zero, Int.reduceAdd]; omega))
  · subst hx
    refine v_iload_n (n := 1) xB_113 dX10_isKindOrUnder_0 rfl rfl ?_
    refine v_istore_n2 (n := 2) xB_113 dX10_isKindOrUnder_1 rfl rfl ?_
    refine v_iconst (n := 3) xB_113 dX10_isKindOrUnder_2 ⟨by decide, by decide⟩ rfl ?_
    refine v_istore_n3 (n := 4) xB_113 dX10_isKindOrUnder_3 rfl rfl ?_
    refine v_iload_n (n := 5) xB_113 dX10_isKindOrUnder_4 rfl rfl ?_
    refine v_gst_0 (n := 8) xB_113 dX10_isKindOrUnder_5 xO_113 gs_10_291 rfl ?_
    refine v_alen (n := 9) (lz := 7) xB_113 dX10_isKindOrUnder_8 (sh_ka _ _ _) (by decide) rfl rfl ?_
    refine v_ic_ge_n (n := 12) xB_113 dX10_isKindOrUnder_9 (by decide) rfl (by decide) ?_
    refine v_iload_n (n := 13) xB_113 dX10_isKindOrUnder_12 rfl rfl ?_
    refine v_iload_n (n := 14) xB_113 dX10_isKindOrUnder_13 rfl rfl ?_
    refine v_ic_le (t := 29) (n := 17) xB_113 dX10_isKindOrUnder_14 (by decide) rfl rfl (fun g1 => ?_) (fun g1 => ?_)
    · refine v_iload_n (n := 30) xB_113 dX10_isKindOrUnder_29 rfl rfl ?_
      refine v_iload_n (n := 31) xB_113 dX10_isKindOrUnder_30 rfl rfl ?_
      refine v_ic_ne (t := 38) (n := 34) xB_113 dX10_isKindOrUnder_31 (by decide) rfl rfl (fun g2 => ?_) (fun g2 => ?_)
      · refine v_iconst (n := 39) xB_113 dX10_isKindOrUnder_38 ⟨by decide, by decide⟩ rfl ?_
        refine v_ireturn1 xB_113 dX10_isKindOrUnder_39 xK_113 (by decide) ?_
        first | exact o1 (by first | omega | (simp only [sA_same, sA_s, ud_s, Int.reduceEq, if_true, if_false, ite_true, ite_false, ↓reduceIte, and_true, true_and, eq_self, Int.add_zero, Int.reduceAdd]; omega) | (simp (disch := omega) only [sA_same, sA_ne, ud_eq, ud_ne, Int.add_zero, Int.reduceAdd]; omega)) | exact o2 (by first | omega | (simp only [sA_same, sA_s, ud_s, Int.reduceEq, if_true, if_false, ite_true, ite_false, ↓reduceIte, and_true, true_and, eq_self, Int.add_zero, Int.reduceAdd]; omega) | (simp (disch := omega) only [sA_same, sA_ne, ud_eq, ud_ne, Int.add_zero, Int.reduceAdd]; omega))
      · refine v_iconst (n := 35) xB_113 dX10_isKindOrUnder_34 ⟨by decide, by decide⟩ rfl ?_
        refine v_goto (t := 39) xB_113 dX10_isKindOrUnder_35 (by decide) rfl ?_
        refine v_ireturn1 xB_113 dX10_isKindOrUnder_39 xK_113 (by decide) ?_
        first | exact o1 (by first | omega | (simp only [sA_same, sA_s, ud_s, Int.reduceEq, if_true, if_false, ite_true, ite_false, ↓reduceIte, and_true, true_and, eq_self, Int.add_zero, Int.reduceAdd]; omega) | (simp (disch := omega) only [sA_same, sA_ne, ud_eq, ud_ne, Int.add_zero, Int.reduceAdd]; omega)) | exact o2 (by first | omega | (simp only [sA_same, sA_s, ud_s, Int.reduceEq, if_true, if_false, ite_true, ite_false, ↓reduceIte, and_true, true_and, eq_self, Int.add_zero, Int.reduceAdd]; omega) | (simp (disch := omega) only [sA_same, sA_ne, ud_eq, ud_ne, Int.add_zero, Int.reduceAdd]; omega))
    · refine v_gst_0 (n := 20) xB_113 dX10_isKindOrUnder_17 xO_113 gs_10_291 rfl ?_
      refine v_iload_n (n := 21) xB_113 dX10_isKindOrUnder_20 rfl rfl ?_
      refine v_iaload (n := 22) (lz := 7) xB_113 dX10_isKindOrUnder_21 (sh_ka _ _ _) rfl (by first | omega | (simp only [sA_same, sA_s, ud_s, Int.reduceEq, if_true, if_false, ite_true, ite_false, ↓reduceIte, and_true, true_and, eq_self, Int.add_zero, Int.reduceAdd]; omega) | (simp (disch := omega) only [sA_same, sA_ne, ud_eq, ud_ne, Int.add_zero, Int.reduceAdd]; omega)) rfl ?_
      (try simp only [K0, K1, K2, K3, K4, K5, K6])
      refine v_istore_n2 (n := 23) xB_113 dX10_isKindOrUnder_22 rfl rfl ?_
      refine v_iinc3 (n := 26) xB_113 dX10_isKindOrUnder_23 rfl (by first | omega | (simp only [sA_same, sA_s, ud_s, Int.reduceEq, if_true, if_false, ite_true, ite_false, ↓reduceIte, and_true, true_and, eq_self, Int.add_zero, Int.reduceAdd]; omega) | (simp (disch := omega) only [sA_same, sA_ne, ud_eq, ud_ne, Int.add_zero, Int.reduceAdd]; omega)) rfl ?_
      refine v_goto (t := 4) xB_113 dX10_isKindOrUnder_26 (by decide) rfl ?_
      refine v_iload_n (n := 5) xB_113 dX10_isKindOrUnder_4 rfl rfl ?_
      refine v_gst_0 (n := 8) xB_113 dX10_isKindOrUnder_5 xO_113 gs_10_291 rfl ?_
      refine v_alen (n := 9) (lz := 7) xB_113 dX10_isKindOrUnder_8 (sh_ka _ _ _) (by decide) rfl rfl ?_
      refine v_ic_ge_n (n := 12) xB_113 dX10_isKindOrUnder_9 (by decide) rfl (by decide) ?_
      refine v_iload_n (n := 13) xB_113 dX10_isKindOrUnder_12 rfl rfl ?_
      refine v_iload_n (n := 14) xB_113 dX10_isKindOrUnder_13 rfl rfl ?_
      refine v_ic_le (t := 29) (n := 17) xB_113 dX10_isKindOrUnder_14 (by decide) rfl rfl (fun g3 => ?_) (fun g3 => ?_)
      · refine v_iload_n (n := 30) xB_113 dX10_isKindOrUnder_29 rfl rfl ?_
        refine v_iload_n (n := 31) xB_113 dX10_isKindOrUnder_30 rfl rfl ?_
        refine v_ic_ne (t := 38) (n := 34) xB_113 dX10_isKindOrUnder_31 (by decide) rfl rfl (fun g4 => ?_) (fun g4 => ?_)
        · refine v_iconst (n := 39) xB_113 dX10_isKindOrUnder_38 ⟨by decide, by decide⟩ rfl ?_
          refine v_ireturn1 xB_113 dX10_isKindOrUnder_39 xK_113 (by decide) ?_
          first | exact o1 (by first | omega | (simp only [sA_same, sA_s, ud_s, Int.reduceEq, if_true, if_false, ite_true, ite_false, ↓reduceIte, and_true, true_and, eq_self, Int.add_zero, Int.reduceAdd]; omega) | (simp (disch := omega) only [sA_same, sA_ne, ud_eq, ud_ne, Int.add_zero, Int.reduceAdd]; omega)) | exact o2 (by first | omega | (simp only [sA_same, sA_s, ud_s, Int.reduceEq, if_true, if_false, ite_true, ite_false, ↓reduceIte, and_true, true_and, eq_self, Int.add_zero, Int.reduceAdd]; omega) | (simp (disch := omega) only [sA_same, sA_ne, ud_eq, ud_ne, Int.add_zero, Int.reduceAdd]; omega))
        · refine v_iconst (n := 35) xB_113 dX10_isKindOrUnder_34 ⟨by decide, by decide⟩ rfl ?_
          refine v_goto (t := 39) xB_113 dX10_isKindOrUnder_35 (by decide) rfl ?_
          refine v_ireturn1 xB_113 dX10_isKindOrUnder_39 xK_113 (by decide) ?_
          first | exact o1 (by first | omega | (simp only [sA_same, sA_s, ud_s, Int.reduceEq, if_true, if_false, ite_true, ite_false, ↓reduceIte, and_true, true_and, eq_self, Int.add_zero, Int.reduceAdd]; omega) | (simp (disch := omega) only [sA_same, sA_ne, ud_eq, ud_ne, Int.add_zero, Int.reduceAdd]; omega)) | exact o2 (by first | omega | (simp only [sA_same, sA_s, ud_s, Int.reduceEq, if_true, if_false, ite_true, ite_false, ↓reduceIte, and_true, true_and, eq_self, Int.add_zero, Int.reduceAdd]; omega) | (simp (disch := omega) only [sA_same, sA_ne, ud_eq, ud_ne, Int.add_zero, Int.reduceAdd]; omega))
      · refine v_gst_0 (n := 20) xB_113 dX10_isKindOrUnder_17 xO_113 gs_10_291 rfl ?_
        refine v_iload_n (n := 21) xB_113 dX10_isKindOrUnder_20 rfl rfl ?_
        refine v_iaload (n := 22) (lz := 7) xB_113 dX10_isKindOrUnder_21 (sh_ka _ _ _) rfl (by first | omega | (simp only [sA_same, sA_s, ud_s, Int.reduceEq, if_true, if_false, ite_true, ite_false, ↓reduceIte, and_true, true_and, eq_self, Int.add_zero, Int.reduceAdd]; omega) | (simp (disch := omega) only [sA_same, sA_ne, ud_eq, ud_ne, Int.add_zero, Int.reduceAdd]; omega)) rfl ?_
        (try simp only [K0, K1, K2, K3, K4, K5, K6])
        refine v_istore_n2 (n := 23) xB_113 dX10_isKindOrUnder_22 rfl rfl ?_
        refine v_iinc3 (n := 26) xB_113 dX10_isKindOrUnder_23 rfl (by first | omega | (simp only [sA_same, sA_s, ud_s, Int.reduceEq, if_true, if_false, ite_true, ite_false, ↓reduceIte, and_true, true_and, eq_self, Int.add_zero, Int.reduceAdd]; omega) | (simp (disch := omega) only [sA_same, sA_ne, ud_eq, ud_ne, Int.add_zero, Int.reduceAdd]; omega)) rfl ?_
        refine v_goto (t := 4) xB_113 dX10_isKindOrUnder_26 (by decide) rfl ?_
        refine v_iload_n (n := 5) xB_113 dX10_isKindOrUnder_4 rfl rfl ?_
        refine v_gst_0 (n := 8) xB_113 dX10_isKindOrUnder_5 xO_113 gs_10_291 rfl ?_
        refine v_alen (n := 9) (lz := 7) xB_113 dX10_isKindOrUnder_8 (sh_ka _ _ _) (by decide) rfl rfl ?_
        refine v_ic_ge_n (n := 12) xB_113 dX10_isKindOrUnder_9 (by decide) rfl (by decide) ?_
        refine v_iload_n (n := 13) xB_113 dX10_isKindOrUnder_12 rfl rfl ?_
        refine v_iload_n (n := 14) xB_113 dX10_isKindOrUnder_13 rfl rfl ?_
        refine v_ic_le (t := 29) (n := 17) xB_113 dX10_isKindOrUnder_14 (by decide) rfl rfl (fun g5 => ?_) (fun g5 => ?_)
        · refine v_iload_n (n := 30) xB_113 dX10_isKindOrUnder_29 rfl rfl ?_
          refine v_iload_n (n := 31) xB_113 dX10_isKindOrUnder_30 rfl rfl ?_
          refine v_ic_ne (t := 38) (n := 34) xB_113 dX10_isKindOrUnder_31 (by decide) rfl rfl (fun g6 => ?_) (fun g6 => ?_)
          · refine v_iconst (n := 39) xB_113 dX10_isKindOrUnder_38 ⟨by decide, by decide⟩ rfl ?_
            refine v_ireturn1 xB_113 dX10_isKindOrUnder_39 xK_113 (by decide) ?_
            first | exact o1 (by first | omega | (simp only [sA_same, sA_s, ud_s, Int.reduceEq, if_true, if_false, ite_true, ite_false, ↓reduceIte, and_true, true_and, eq_self, Int.add_zero, Int.reduceAdd]; omega) | (simp (disch := omega) only [sA_same, sA_ne, ud_eq, ud_ne, Int.add_zero, Int.reduceAdd]; omega)) | exact o2 (by first | omega | (simp only [sA_same, sA_s, ud_s, Int.reduceEq, if_true, if_false, ite_true, ite_false, ↓reduceIte, and_true, true_and, eq_self, Int.add_zero, Int.reduceAdd]; omega) | (simp (disch := omega) only [sA_same, sA_ne, ud_eq, ud_ne, Int.add_zero, Int.reduceAdd]; omega))
          · refine v_iconst (n := 35) xB_113 dX10_isKindOrUnder_34 ⟨by decide, by decide⟩ rfl ?_
            refine v_goto (t := 39) xB_113 dX10_isKindOrUnder_35 (by decide) rfl ?_
            refine v_ireturn1 xB_113 dX10_isKindOrUnder_39 xK_113 (by decide) ?_
            first | exact o1 (by first | omega | (simp only [sA_same, sA_s, ud_s, Int.reduceEq, if_true, if_false, ite_true, ite_false, ↓reduceIte, and_true, true_and, eq_self, Int.add_zero, Int.reduceAdd]; omega) | (simp (disch := omega) only [sA_same, sA_ne, ud_eq, ud_ne, Int.add_zero, Int.reduceAdd]; omega)) | exact o2 (by first | omega | (simp only [sA_same, sA_s, ud_s, Int.reduceEq, if_true, if_false, ite_true, ite_false, ↓reduceIte, and_true, true_and, eq_self, Int.add_zero, Int.reduceAdd]; omega) | (simp (disch := omega) only [sA_same, sA_ne, ud_eq, ud_ne, Int.add_zero, Int.reduceAdd]; omega))
        · refine v_gst_0 (n := 20) xB_113 dX10_isKindOrUnder_17 xO_113 gs_10_291 rfl ?_
          refine v_iload_n (n := 21) xB_113 dX10_isKindOrUnder_20 rfl rfl ?_
          refine v_iaload (n := 22) (lz := 7) xB_113 dX10_isKindOrUnder_21 (sh_ka _ _ _) rfl (by first | omega | (simp only [sA_same, sA_s, ud_s, Int.reduceEq, if_true, if_false, ite_true, ite_false, ↓reduceIte, and_true, true_and, eq_self, Int.add_zero, Int.reduceAdd]; omega) | (simp (disch := omega) only [sA_same, sA_ne, ud_eq, ud_ne, Int.add_zero, Int.reduceAdd]; omega)) rfl ?_
          (try simp only [K0, K1, K2, K3, K4, K5, K6])
          refine v_istore_n2 (n := 23) xB_113 dX10_isKindOrUnder_22 rfl rfl ?_
          refine v_iinc3 (n := 26) xB_113 dX10_isKindOrUnder_23 rfl (by first | omega | (simp only [sA_same, sA_s, ud_s, Int.reduceEq, if_true, if_false, ite_true, ite_false, ↓reduceIte, and_true, true_and, eq_self, Int.add_zero, Int.reduceAdd]; omega) | (simp (disch := omega) only [sA_same, sA_ne, ud_eq, ud_ne, Int.add_zero, Int.reduceAdd]; omega)) rfl ?_
          refine v_goto (t := 4) xB_113 dX10_isKindOrUnder_26 (by decide) rfl ?_
          refine v_iload_n (n := 5) xB_113 dX10_isKindOrUnder_4 rfl rfl ?_
          refine v_gst_0 (n := 8) xB_113 dX10_isKindOrUnder_5 xO_113 gs_10_291 rfl ?_
          refine v_alen (n := 9) (lz := 7) xB_113 dX10_isKindOrUnder_8 (sh_ka _ _ _) (by decide) rfl rfl ?_
          refine v_ic_ge_n (n := 12) xB_113 dX10_isKindOrUnder_9 (by decide) rfl (by decide) ?_
          refine v_iload_n (n := 13) xB_113 dX10_isKindOrUnder_12 rfl rfl ?_
          refine v_iload_n (n := 14) xB_113 dX10_isKindOrUnder_13 rfl rfl ?_
          refine v_ic_le (t := 29) (n := 17) xB_113 dX10_isKindOrUnder_14 (by decide) rfl rfl (fun g7 => ?_) (fun g7 => ?_)
          · refine v_iload_n (n := 30) xB_113 dX10_isKindOrUnder_29 rfl rfl ?_
            refine v_iload_n (n := 31) xB_113 dX10_isKindOrUnder_30 rfl rfl ?_
            refine v_ic_ne (t := 38) (n := 34) xB_113 dX10_isKindOrUnder_31 (by decide) rfl rfl (fun g8 => ?_) (fun g8 => ?_)
            · refine v_iconst (n := 39) xB_113 dX10_isKindOrUnder_38 ⟨by decide, by decide⟩ rfl ?_
              refine v_ireturn1 xB_113 dX10_isKindOrUnder_39 xK_113 (by decide) ?_
              first | exact o1 (by first | omega | (simp only [sA_same, sA_s, ud_s, Int.reduceEq, if_true, if_false, ite_true, ite_false, ↓reduceIte, and_true, true_and, eq_self, Int.add_zero, Int.reduceAdd]; omega) | (simp (disch := omega) only [sA_same, sA_ne, ud_eq, ud_ne, Int.add_zero, Int.reduceAdd]; omega)) | exact o2 (by first | omega | (simp only [sA_same, sA_s, ud_s, Int.reduceEq, if_true, if_false, ite_true, ite_false, ↓reduceIte, and_true, true_and, eq_self, Int.add_zero, Int.reduceAdd]; omega) | (simp (disch := omega) only [sA_same, sA_ne, ud_eq, ud_ne, Int.add_zero, Int.reduceAdd]; omega))
            · refine v_iconst (n := 35) xB_113 dX10_isKindOrUnder_34 ⟨by decide, by decide⟩ rfl ?_
              refine v_goto (t := 39) xB_113 dX10_isKindOrUnder_35 (by decide) rfl ?_
              refine v_ireturn1 xB_113 dX10_isKindOrUnder_39 xK_113 (by decide) ?_
              first | exact o1 (by first | omega | (simp only [sA_same, sA_s, ud_s, Int.reduceEq, if_true, if_false, ite_true, ite_false, ↓reduceIte, and_true, true_and, eq_self, Int.add_zero, Int.reduceAdd]; omega) | (simp (disch := omega) only [sA_same, sA_ne, ud_eq, ud_ne, Int.add_zero, Int.reduceAdd]; omega)) | exact o2 (by first | omega | (simp only [sA_same, sA_s, ud_s, Int.reduceEq, if_true, if_false, ite_true, ite_false, ↓reduceIte, and_true, true_and, eq_self, Int.add_zero, Int.reduceAdd]; omega) | (simp (disch := omega) only [sA_same, sA_ne, ud_eq, ud_ne, Int.add_zero, Int.reduceAdd]; omega))
          · refine v_gst_0 (n := 20) xB_113 dX10_isKindOrUnder_17 xO_113 gs_10_291 rfl ?_
            refine v_iload_n (n := 21) xB_113 dX10_isKindOrUnder_20 rfl rfl ?_
            refine v_iaload (n := 22) (lz := 7) xB_113 dX10_isKindOrUnder_21 (sh_ka _ _ _) rfl (by first | omega | (simp only [sA_same, sA_s, ud_s, Int.reduceEq, if_true, if_false, ite_true, ite_false, ↓reduceIte, and_true, true_and, eq_self, Int.add_zero, Int.reduceAdd]; omega) | (simp (disch := omega) only [sA_same, sA_ne, ud_eq, ud_ne, Int.add_zero, Int.reduceAdd]; omega)) rfl ?_
            (try simp only [K0, K1, K2, K3, K4, K5, K6])
            refine v_istore_n2 (n := 23) xB_113 dX10_isKindOrUnder_22 rfl rfl ?_
            refine v_iinc3 (n := 26) xB_113 dX10_isKindOrUnder_23 rfl (by first | omega | (simp only [sA_same, sA_s, ud_s, Int.reduceEq, if_true, if_false, ite_true, ite_false, ↓reduceIte, and_true, true_and, eq_self, Int.add_zero, Int.reduceAdd]; omega) | (simp (disch := omega) only [sA_same, sA_ne, ud_eq, ud_ne, Int.add_zero, Int.reduceAdd]; omega)) rfl ?_
            refine v_goto (t := 4) xB_113 dX10_isKindOrUnder_26 (by decide) rfl ?_
            refine v_iload_n (n := 5) xB_113 dX10_isKindOrUnder_4 rfl rfl ?_
            refine v_gst_0 (n := 8) xB_113 dX10_isKindOrUnder_5 xO_113 gs_10_291 rfl ?_
            refine v_alen (n := 9) (lz := 7) xB_113 dX10_isKindOrUnder_8 (sh_ka _ _ _) (by decide) rfl rfl ?_
            refine v_ic_ge_n (n := 12) xB_113 dX10_isKindOrUnder_9 (by decide) rfl (by decide) ?_
            refine v_iload_n (n := 13) xB_113 dX10_isKindOrUnder_12 rfl rfl ?_
            refine v_iload_n (n := 14) xB_113 dX10_isKindOrUnder_13 rfl rfl ?_
            refine v_ic_le (t := 29) (n := 17) xB_113 dX10_isKindOrUnder_14 (by decide) rfl rfl (fun g9 => ?_) (fun g9 => ?_)
            · refine v_iload_n (n := 30) xB_113 dX10_isKindOrUnder_29 rfl rfl ?_
              refine v_iload_n (n := 31) xB_113 dX10_isKindOrUnder_30 rfl rfl ?_
              refine v_ic_ne (t := 38) (n := 34) xB_113 dX10_isKindOrUnder_31 (by decide) rfl rfl (fun g10 => ?_) (fun g10 => ?_)
              · refine v_iconst (n := 39) xB_113 dX10_isKindOrUnder_38 ⟨by decide, by decide⟩ rfl ?_
                refine v_ireturn1 xB_113 dX10_isKindOrUnder_39 xK_113 (by decide) ?_
                first | exact o1 (by first | omega | (simp only [sA_same, sA_s, ud_s, Int.reduceEq, if_true, if_false, ite_true, ite_false, ↓reduceIte, and_true, true_and, eq_self, Int.add_zero, Int.reduceAdd]; omega) | (simp (disch := omega) only [sA_same, sA_ne, ud_eq, ud_ne, Int.add_zero, Int.reduceAdd]; omega)) | exact o2 (by first | omega | (simp only [sA_same, sA_s, ud_s, Int.reduceEq, if_true, if_false, ite_true, ite_false, ↓reduceIte, and_true, true_and, eq_self, Int.add_zero, Int.reduceAdd]; omega) | (simp (disch := omega) only [sA_same, sA_ne, ud_eq, ud_ne, Int.add_zero, Int.reduceAdd]; omega))
              · refine v_iconst (n := 35) xB_113 dX10_isKindOrUnder_34 ⟨by decide, by decide⟩ rfl ?_
                refine v_goto (t := 39) xB_113 dX10_isKindOrUnder_35 (by decide) rfl ?_
                refine v_ireturn1 xB_113 dX10_isKindOrUnder_39 xK_113 (by decide) ?_
                first | exact o1 (by first | omega | (simp only [sA_same, sA_s, ud_s, Int.reduceEq, if_true, if_false, ite_true, ite_false, ↓reduceIte, and_true, true_and, eq_self, Int.add_zero, Int.reduceAdd]; omega) | (simp (disch := omega) only [sA_same, sA_ne, ud_eq, ud_ne, Int.add_zero, Int.reduceAdd]; omega)) | exact o2 (by first | omega | (simp only [sA_same, sA_s, ud_s, Int.reduceEq, if_true, if_false, ite_true, ite_false, ↓reduceIte, and_true, true_and, eq_self, Int.add_zero, Int.reduceAdd]; omega) | (simp (disch := omega) only [sA_same, sA_ne, ud_eq, ud_ne, Int.add_zero, Int.reduceAdd]; omega))
            · refine v_gst_0 (n := 20) xB_113 dX10_isKindOrUnder_17 xO_113 gs_10_291 rfl ?_
              refine v_iload_n (n := 21) xB_113 dX10_isKindOrUnder_20 rfl rfl ?_
              refine v_iaload (n := 22) (lz := 7) xB_113 dX10_isKindOrUnder_21 (sh_ka _ _ _) rfl (by first | omega | (simp only [sA_same, sA_s, ud_s, Int.reduceEq, if_true, if_false, ite_true, ite_false, ↓reduceIte, and_true, true_and, eq_self, Int.add_zero, Int.reduceAdd]; omega) | (simp (disch := omega) only [sA_same, sA_ne, ud_eq, ud_ne, Int.add_zero, Int.reduceAdd]; omega)) rfl ?_
              (try simp only [K0, K1, K2, K3, K4, K5, K6])
              refine v_istore_n2 (n := 23) xB_113 dX10_isKindOrUnder_22 rfl rfl ?_
              refine v_iinc3 (n := 26) xB_113 dX10_isKindOrUnder_23 rfl (by first | omega | (simp only [sA_same, sA_s, ud_s, Int.reduceEq, if_true, if_false, ite_true, ite_false, ↓reduceIte, and_true, true_and, eq_self, Int.add_zero, Int.reduceAdd]; omega) | (simp (disch := omega) only [sA_same, sA_ne, ud_eq, ud_ne, Int.add_zero, Int.reduceAdd]; omega)) rfl ?_
              refine v_goto (t := 4) xB_113 dX10_isKindOrUnder_26 (by decide) rfl ?_
              refine v_iload_n (n := 5) xB_113 dX10_isKindOrUnder_4 rfl rfl ?_
              refine v_gst_0 (n := 8) xB_113 dX10_isKindOrUnder_5 xO_113 gs_10_291 rfl ?_
              refine v_alen (n := 9) (lz := 7) xB_113 dX10_isKindOrUnder_8 (sh_ka _ _ _) (by decide) rfl rfl ?_
              refine v_ic_ge_n (n := 12) xB_113 dX10_isKindOrUnder_9 (by decide) rfl (by decide) ?_
              refine v_iload_n (n := 13) xB_113 dX10_isKindOrUnder_12 rfl rfl ?_
              refine v_iload_n (n := 14) xB_113 dX10_isKindOrUnder_13 rfl rfl ?_
              refine v_ic_le (t := 29) (n := 17) xB_113 dX10_isKindOrUnder_14 (by decide) rfl rfl (fun g11 => ?_) (fun g11 => ?_)
              · refine v_iload_n (n := 30) xB_113 dX10_isKindOrUnder_29 rfl rfl ?_
                refine v_iload_n (n := 31) xB_113 dX10_isKindOrUnder_30 rfl rfl ?_
                refine v_ic_ne (t := 38) (n := 34) xB_113 dX10_isKindOrUnder_31 (by decide) rfl rfl (fun g12 => ?_) (fun g12 => ?_)
                · refine v_iconst (n := 39) xB_113 dX10_isKindOrUnder_38 ⟨by decide, by decide⟩ rfl ?_
                  refine v_ireturn1 xB_113 dX10_isKindOrUnder_39 xK_113 (by decide) ?_
                  first | exact o1 (by first | omega | (simp only [sA_same, sA_s, ud_s, Int.reduceEq, if_true, if_false, ite_true, ite_false, ↓reduceIte, and_true, true_and, eq_self, Int.add_zero, Int.reduceAdd]; omega) | (simp (disch := omega) only [sA_same, sA_ne, ud_eq, ud_ne, Int.add_zero, Int.reduceAdd]; omega)) | exact o2 (by first | omega | (simp only [sA_same, sA_s, ud_s, Int.reduceEq, if_true, if_false, ite_true, ite_false, ↓reduceIte, and_true, true_and, eq_self, Int.add_zero, Int.reduceAdd]; omega) | (simp (disch := omega) only [sA_same, sA_ne, ud_eq, ud_ne, Int.add_zero, Int.reduceAdd]; omega))
                · refine v_iconst (n := 35) xB_113 dX10_isKindOrUnder_34 ⟨by decide, by decide⟩ rfl ?_
                  refine v_goto (t := 39) xB_113 dX10_isKindOrUnder_35 (by decide) rfl ?_
                  refine v_ireturn1 xB_113 dX10_isKindOrUnder_39 xK_113 (by decide) ?_
                  first | exact o1 (by first | omega | (simp only [sA_same, sA_s, ud_s, Int.reduceEq, if_true, if_false, ite_true, ite_false, ↓reduceIte, and_true, true_and, eq_self, Int.add_zero, Int.reduceAdd]; omega) | (simp (disch := omega) only [sA_same, sA_ne, ud_eq, ud_ne, Int.add_zero, Int.reduceAdd]; omega)) | exact o2 (by first | omega | (simp only [sA_same, sA_s, ud_s, Int.reduceEq, if_true, if_false, ite_true, ite_false, ↓reduceIte, and_true, true_and, eq_self, Int.add_zero, Int.reduceAdd]; omega) | (simp (disch := omega) only [sA_same, sA_ne, ud_eq, ud_ne, Int.add_zero, Int.reduceAdd]; omega))
              · refine v_gst_0 (n := 20) xB_113 dX10_isKindOrUnder_17 xO_113 gs_10_291 rfl ?_
                refine v_iload_n (n := 21) xB_113 dX10_isKindOrUnder_20 rfl rfl ?_
                refine v_iaload (n := 22) (lz := 7) xB_113 dX10_isKindOrUnder_21 (sh_ka _ _ _) rfl (by first | omega | (simp only [sA_same, sA_s, ud_s, Int.reduceEq, if_true, if_false, ite_true, ite_false, ↓reduceIte, and_true, true_and, eq_self, Int.add_zero, Int.reduceAdd]; omega) | (simp (disch := omega) only [sA_same, sA_ne, ud_eq, ud_ne, Int.add_zero, Int.reduceAdd]; omega)) rfl ?_
                (try simp only [K0, K1, K2, K3, K4, K5, K6])
                refine v_istore_n2 (n := 23) xB_113 dX10_isKindOrUnder_22 rfl rfl ?_
                refine v_iinc3 (n := 26) xB_113 dX10_isKindOrUnder_23 rfl (by first | omega | (simp only [sA_same, sA_s, ud_s, Int.reduceEq, if_true, if_false, ite_true, ite_false, ↓reduceIte, and_true, true_and, eq_self, Int.add_zero, Int.reduceAdd]; omega) | (simp (disch := omega) only [sA_same, sA_ne, ud_eq, ud_ne, Int.add_zero, Int.reduceAdd]; omega)) rfl ?_
                refine v_goto (t := 4) xB_113 dX10_isKindOrUnder_26 (by decide) rfl ?_
                refine v_iload_n (n := 5) xB_113 dX10_isKindOrUnder_4 rfl rfl ?_
                refine v_gst_0 (n := 8) xB_113 dX10_isKindOrUnder_5 xO_113 gs_10_291 rfl ?_
                refine v_alen (n := 9) (lz := 7) xB_113 dX10_isKindOrUnder_8 (sh_ka _ _ _) (by decide) rfl rfl ?_
                refine v_ic_ge_n (n := 12) xB_113 dX10_isKindOrUnder_9 (by decide) rfl (by decide) ?_
                refine v_iload_n (n := 13) xB_113 dX10_isKindOrUnder_12 rfl rfl ?_
                refine v_iload_n (n := 14) xB_113 dX10_isKindOrUnder_13 rfl rfl ?_
                refine v_ic_le (t := 29) (n := 17) xB_113 dX10_isKindOrUnder_14 (by decide) rfl rfl (fun g13 => ?_) (fun g13 => ?_)
                · refine v_iload_n (n := 30) xB_113 dX10_isKindOrUnder_29 rfl rfl ?_
                  refine v_iload_n (n := 31) xB_113 dX10_isKindOrUnder_30 rfl rfl ?_
                  refine v_ic_ne (t := 38) (n := 34) xB_113 dX10_isKindOrUnder_31 (by decide) rfl rfl (fun g14 => ?_) (fun g14 => ?_)
                  · refine v_iconst (n := 39) xB_113 dX10_isKindOrUnder_38 ⟨by decide, by decide⟩ rfl ?_
                    refine v_ireturn1 xB_113 dX10_isKindOrUnder_39 xK_113 (by decide) ?_
                    first | exact o1 (by first | omega | (simp only [sA_same, sA_s, ud_s, Int.reduceEq, if_true, if_false, ite_true, ite_false, ↓reduceIte, and_true, true_and, eq_self, Int.add_zero, Int.reduceAdd]; omega) | (simp (disch := omega) only [sA_same, sA_ne, ud_eq, ud_ne, Int.add_zero, Int.reduceAdd]; omega)) | exact o2 (by first | omega | (simp only [sA_same, sA_s, ud_s, Int.reduceEq, if_true, if_false, ite_true, ite_false, ↓reduceIte, and_true, true_and, eq_self, Int.add_zero, Int.reduceAdd]; omega) | (simp (disch := omega) only [sA_same, sA_ne, ud_eq, ud_ne, Int.add_zero, Int.reduceAdd]; omega))
                  · refine v_iconst (n := 35) xB_113 dX10_isKindOrUnder_34 ⟨by decide, by decide⟩ rfl ?_
                    refine v_goto (t := 39) xB_113 dX10_isKindOrUnder_35 (by decide) rfl ?_
                    refine v_ireturn1 xB_113 dX10_isKindOrUnder_39 xK_113 (by decide) ?_
                    first | exact o1 (by first | omega | (simp only [sA_same, sA_s, ud_s, Int.reduceEq, if_true, if_false, ite_true, ite_false, ↓reduceIte, and_true, true_and, eq_self, Int.add_zero, Int.reduceAdd]; omega) | (simp (disch := omega) only [sA_same, sA_ne, ud_eq, ud_ne, Int.add_zero, Int.reduceAdd]; omega)) | exact o2 (by first | omega | (simp only [sA_same, sA_s, ud_s, Int.reduceEq, if_true, if_false, ite_true, ite_false, ↓reduceIte, and_true, true_and, eq_self, Int.add_zero, Int.reduceAdd]; omega) | (simp (disch := omega) only [sA_same, sA_ne, ud_eq, ud_ne, Int.add_zero, Int.reduceAdd]; omega))
                · refine v_gst_0 (n := 20) xB_113 dX10_isKindOrUnder_17 xO_113 gs_10_291 rfl ?_
                  refine v_iload_n (n := 21) xB_113 dX10_isKindOrUnder_20 rfl rfl ?_
                  refine v_iaload (n := 22) (lz := 7) xB_113 dX10_isKindOrUnder_21 (sh_ka _ _ _) rfl (by first | omega | (simp only [sA_same, sA_s, ud_s, Int.reduceEq, if_true, if_false, ite_true, ite_false, ↓reduceIte, and_true, true_and, eq_self, Int.add_zero, Int.reduceAdd]; omega) | (simp (disch := omega) only [sA_same, sA_ne, ud_eq, ud_ne, Int.add_zero, Int.reduceAdd]; omega)) rfl ?_
                  (try simp only [K0, K1, K2, K3, K4, K5, K6])
                  refine v_istore_n2 (n := 23) xB_113 dX10_isKindOrUnder_22 rfl rfl ?_
                  refine v_iinc3 (n := 26) xB_113 dX10_isKindOrUnder_23 rfl (by first | omega | (simp only [sA_same, sA_s, ud_s, Int.reduceEq, if_true, if_false, ite_true, ite_false, ↓reduceIte, and_true, true_and, eq_self, Int.add_zero, Int.reduceAdd]; omega) | (simp (disch := omega) only [sA_same, sA_ne, ud_eq, ud_ne, Int.add_zero, Int.reduceAdd]; omega)) rfl ?_
                  refine v_goto (t := 4) xB_113 dX10_isKindOrUnder_26 (by decide) rfl ?_
                  refine v_iload_n (n := 5) xB_113 dX10_isKindOrUnder_4 rfl rfl ?_
                  refine v_gst_0 (n := 8) xB_113 dX10_isKindOrUnder_5 xO_113 gs_10_291 rfl ?_
                  refine v_alen (n := 9) (lz := 7) xB_113 dX10_isKindOrUnder_8 (sh_ka _ _ _) (by decide) rfl rfl ?_
                  refine v_ic_ge_y (t := 29) xB_113 dX10_isKindOrUnder_9 (by decide) rfl (by decide) ?_
                  refine v_iload_n (n := 30) xB_113 dX10_isKindOrUnder_29 rfl rfl ?_
                  refine v_iload_n (n := 31) xB_113 dX10_isKindOrUnder_30 rfl rfl ?_
                  refine v_ic_ne (t := 38) (n := 34) xB_113 dX10_isKindOrUnder_31 (by decide) rfl rfl (fun g15 => ?_) (fun g15 => ?_)
                  · refine v_iconst (n := 39) xB_113 dX10_isKindOrUnder_38 ⟨by decide, by decide⟩ rfl ?_
                    refine v_ireturn1 xB_113 dX10_isKindOrUnder_39 xK_113 (by decide) ?_
                    first | exact o1 (by first | omega | (simp only [sA_same, sA_s, ud_s, Int.reduceEq, if_true, if_false, ite_true, ite_false, ↓reduceIte, and_true, true_and, eq_self, Int.add_zero, Int.reduceAdd]; omega) | (simp (disch := omega) only [sA_same, sA_ne, ud_eq, ud_ne, Int.add_zero, Int.reduceAdd]; omega)) | exact o2 (by first | omega | (simp only [sA_same, sA_s, ud_s, Int.reduceEq, if_true, if_false, ite_true, ite_false, ↓reduceIte, and_true, true_and, eq_self, Int.add_zero, Int.reduceAdd]; omega) | (simp (disch := omega) only [sA_same, sA_ne, ud_eq, ud_ne, Int.add_zero, Int.reduceAdd]; omega))
                  · refine v_iconst (n := 35) xB_113 dX10_isKindOrUnder_34 ⟨by decide, by decide⟩ rfl ?_
                    refine v_goto (t := 39) xB_113 dX10_isKindOrUnder_35 (by decide) rfl ?_
                    refine v_ireturn1 xB_113 dX10_isKindOrUnder_39 xK_113 (by decide) ?_
                    first | exact o1 (by first | omega | (simp only [sA_same, sA_s, ud_s, Int.reduceEq, if_true, if_false, ite_true, ite_false, ↓reduceIte, and_true, true_and, eq_self, Int.add_zero, Int.reduceAdd]; omega) | (simp (disch := omega) only [sA_same, sA_ne, ud_eq, ud_ne, Int.add_zero, Int.reduceAdd]; omega)) | exact o2 (by first | omega | (simp only [sA_same, sA_s, ud_s, Int.reduceEq, if_true, if_false, ite_true, ite_false, ↓reduceIte, and_true, true_and, eq_self, Int.add_zero, Int.reduceAdd]; omega) | (simp (disch := omega) only [sA_same, sA_ne, ud_eq, ud_ne, Int.add_zero, Int.reduceAdd]; omega))
  · subst hx
    refine v_iload_n (n := 1) xB_113 dX10_isKindOrUnder_0 rfl rfl ?_
    refine v_istore_n2 (n := 2) xB_113 dX10_isKindOrUnder_1 rfl rfl ?_
    refine v_iconst (n := 3) xB_113 dX10_isKindOrUnder_2 ⟨by decide, by decide⟩ rfl ?_
    refine v_istore_n3 (n := 4) xB_113 dX10_isKindOrUnder_3 rfl rfl ?_
    refine v_iload_n (n := 5) xB_113 dX10_isKindOrUnder_4 rfl rfl ?_
    refine v_gst_0 (n := 8) xB_113 dX10_isKindOrUnder_5 xO_113 gs_10_291 rfl ?_
    refine v_alen (n := 9) (lz := 7) xB_113 dX10_isKindOrUnder_8 (sh_ka _ _ _) (by decide) rfl rfl ?_
    refine v_ic_ge_n (n := 12) xB_113 dX10_isKindOrUnder_9 (by decide) rfl (by decide) ?_
    refine v_iload_n (n := 13) xB_113 dX10_isKindOrUnder_12 rfl rfl ?_
    refine v_iload_n (n := 14) xB_113 dX10_isKindOrUnder_13 rfl rfl ?_
    refine v_ic_le (t := 29) (n := 17) xB_113 dX10_isKindOrUnder_14 (by decide) rfl rfl (fun g1 => ?_) (fun g1 => ?_)
    · refine v_iload_n (n := 30) xB_113 dX10_isKindOrUnder_29 rfl rfl ?_
      refine v_iload_n (n := 31) xB_113 dX10_isKindOrUnder_30 rfl rfl ?_
      refine v_ic_ne (t := 38) (n := 34) xB_113 dX10_isKindOrUnder_31 (by decide) rfl rfl (fun g2 => ?_) (fun g2 => ?_)
      · refine v_iconst (n := 39) xB_113 dX10_isKindOrUnder_38 ⟨by decide, by decide⟩ rfl ?_
        refine v_ireturn1 xB_113 dX10_isKindOrUnder_39 xK_113 (by decide) ?_
        first | exact o1 (by first | omega | (simp only [sA_same, sA_s, ud_s, Int.reduceEq, if_true, if_false, ite_true, ite_false, ↓reduceIte, and_true, true_and, eq_self, Int.add_zero, Int.reduceAdd]; omega) | (simp (disch := omega) only [sA_same, sA_ne, ud_eq, ud_ne, Int.add_zero, Int.reduceAdd]; omega)) | exact o2 (by first | omega | (simp only [sA_same, sA_s, ud_s, Int.reduceEq, if_true, if_false, ite_true, ite_false, ↓reduceIte, and_true, true_and, eq_self, Int.add_zero, Int.reduceAdd]; omega) | (simp (disch := omega) only [sA_same, sA_ne, ud_eq, ud_ne, Int.add_zero, Int.reduceAdd]; omega))
      · refine v_iconst (n := 35) xB_113 dX10_isKindOrUnder_34 ⟨by decide, by decide⟩ rfl ?_
        refine v_goto (t := 39) xB_113 dX10_isKindOrUnder_35 (by decide) rfl ?_
        refine v_ireturn1 xB_113 dX10_isKindOrUnder_39 xK_113 (by decide) ?_
        first | exact o1 (by first | omega | (simp only [sA_same, sA_s, ud_s, Int.reduceEq, if_true, if_false, ite_true, ite_false, ↓reduceIte, and_true, true_and, eq_self, Int.add_zero, Int.reduceAdd]; omega) | (simp (disch := omega) only [sA_same, sA_ne, ud_eq, ud_ne, Int.add_zero, Int.reduceAdd]; omega)) | exact o2 (by first | omega | (simp only [sA_same, sA_s, ud_s, Int.reduceEq, if_true, if_false, ite_true, ite_false, ↓reduceIte, and_true, true_and, eq_self, Int.add_zero, Int.reduceAdd]; omega) | (simp (disch := omega) only [sA_same, sA_ne, ud_eq, ud_ne, Int.add_zero, Int.reduceAdd]; omega))
    · refine v_gst_0 (n := 20) xB_113 dX10_isKindOrUnder_17 xO_113 gs_10_291 rfl ?_
      refine v_iload_n (n := 21) xB_113 dX10_isKindOrUnder_20 rfl rfl ?_
      refine v_iaload (n := 22) (lz := 7) xB_113 dX10_isKindOrUnder_21 (sh_ka _ _ _) rfl (by first | omega | (simp only [sA_same, sA_s, ud_s, Int.reduceEq, if_true, if_false, ite_true, ite_false, ↓reduceIte, and_true, true_and, eq_self, Int.add_zero, Int.reduceAdd]; omega) | (simp (disch := omega) only [sA_same, sA_ne, ud_eq, ud_ne, Int.add_zero, Int.reduceAdd]; omega)) rfl ?_
      (try simp only [K0, K1, K2, K3, K4, K5, K6])
      refine v_istore_n2 (n := 23) xB_113 dX10_isKindOrUnder_22 rfl rfl ?_
      refine v_iinc3 (n := 26) xB_113 dX10_isKindOrUnder_23 rfl (by first | omega | (simp only [sA_same, sA_s, ud_s, Int.reduceEq, if_true, if_false, ite_true, ite_false, ↓reduceIte, and_true, true_and, eq_self, Int.add_zero, Int.reduceAdd]; omega) | (simp (disch := omega) only [sA_same, sA_ne, ud_eq, ud_ne, Int.add_zero, Int.reduceAdd]; omega)) rfl ?_
      refine v_goto (t := 4) xB_113 dX10_isKindOrUnder_26 (by decide) rfl ?_
      refine v_iload_n (n := 5) xB_113 dX10_isKindOrUnder_4 rfl rfl ?_
      refine v_gst_0 (n := 8) xB_113 dX10_isKindOrUnder_5 xO_113 gs_10_291 rfl ?_
      refine v_alen (n := 9) (lz := 7) xB_113 dX10_isKindOrUnder_8 (sh_ka _ _ _) (by decide) rfl rfl ?_
      refine v_ic_ge_n (n := 12) xB_113 dX10_isKindOrUnder_9 (by decide) rfl (by decide) ?_
      refine v_iload_n (n := 13) xB_113 dX10_isKindOrUnder_12 rfl rfl ?_
      refine v_iload_n (n := 14) xB_113 dX10_isKindOrUnder_13 rfl rfl ?_
      refine v_ic_le (t := 29) (n := 17) xB_113 dX10_isKindOrUnder_14 (by decide) rfl rfl (fun g3 => ?_) (fun g3 => ?_)
      · refine v_iload_n (n := 30) xB_113 dX10_isKindOrUnder_29 rfl rfl ?_
        refine v_iload_n (n := 31) xB_113 dX10_isKindOrUnder_30 rfl rfl ?_
        refine v_ic_ne (t := 38) (n := 34) xB_113 dX10_isKindOrUnder_31 (by decide) rfl rfl (fun g4 => ?_) (fun g4 => ?_)
        · refine v_iconst (n := 39) xB_113 dX10_isKindOrUnder_38 ⟨by decide, by decide⟩ rfl ?_
          refine v_ireturn1 xB_113 dX10_isKindOrUnder_39 xK_113 (by decide) ?_
          first | exact o1 (by first | omega | (simp only [sA_same, sA_s, ud_s, Int.reduceEq, if_true, if_false, ite_true, ite_false, ↓reduceIte, and_true, true_and, eq_self, Int.add_zero, Int.reduceAdd]; omega) | (simp (disch := omega) only [sA_same, sA_ne, ud_eq, ud_ne, Int.add_zero, Int.reduceAdd]; omega)) | exact o2 (by first | omega | (simp only [sA_same, sA_s, ud_s, Int.reduceEq, if_true, if_false, ite_true, ite_false, ↓reduceIte, and_true, true_and, eq_self, Int.add_zero, Int.reduceAdd]; omega) | (simp (disch := omega) only [sA_same, sA_ne, ud_eq, ud_ne, Int.add_zero, Int.reduceAdd]; omega))
        · refine v_iconst (n := 35) xB_113 dX10_isKindOrUnder_34 ⟨by decide, by decide⟩ rfl ?_
          refine v_goto (t := 39) xB_113 dX10_isKindOrUnder_35 (by decide) rfl ?_
          refine v_ireturn1 xB_113 dX10_isKindOrUnder_39 xK_113 (by decide) ?_
          first | exact o1 (by first | omega | (simp only [sA_same, sA_s, ud_s, Int.reduceEq, if_true, if_false, ite_true, ite_false, ↓reduceIte, and_true, true_and, eq_self, Int.add_zero, Int.reduceAdd]; omega) | (simp (disch := omega) only [sA_same, sA_ne, ud_eq, ud_ne, Int.add_zero, Int.reduceAdd]; omega)) | exact o2 (by first | omega | (simp only [sA_same, sA_s, ud_s, Int.reduceEq, if_true, if_false, ite_true, ite_false, ↓reduceIte, and_true, true_and, eq_self, Int.add_zero, Int.reduceAdd]; omega) | (simp (disch := omega) only [sA_same, sA_ne, ud_eq, ud_ne, Int.add_zero, Int.reduceAdd]; omega))
      · refine v_gst_0 (n := 20) xB_113 dX10_isKindOrUnder_17 xO_113 gs_10_291 rfl ?_
        refine v_iload_n (n := 21) xB_113 dX10_isKindOrUnder_20 rfl rfl ?_
        refine v_iaload (n := 22) (lz := 7) xB_113 dX10_isKindOrUnder_21 (sh_ka _ _ _) rfl (by first | omega | (simp only [sA_same, sA_s, ud_s, Int.reduceEq, if_true, if_false, ite_true, ite_false, ↓reduceIte, and_true, true_and, eq_self, Int.add_zero, Int.reduceAdd]; omega) | (simp (disch := omega) only [sA_same, sA_ne, ud_eq, ud_ne, Int.add_zero, Int.reduceAdd]; omega)) rfl ?_
        (try simp only [K0, K1, K2, K3, K4, K5, K6])
        refine v_istore_n2 (n := 23) xB_113 dX10_isKindOrUnder_22 rfl rfl ?_
        refine v_iinc3 (n := 26) xB_113 dX10_isKindOrUnder_23 rfl (by first | omega | (simp only [sA_same, sA_s, ud_s, Int.reduceEq, if_true, if_false, ite_true, ite_false, ↓reduceIte, and_true, true_and, eq_self, Int.add_zero, Int.reduceAdd]; omega) | (simp (disch := omega) only [sA_same, sA_ne, ud_eq, ud_ne, Int.add_zero, Int.reduceAdd]; omega)) rfl ?_
        refine v_goto (t := 4) xB_113 dX10_isKindOrUnder_26 (by decide) rfl ?_
        refine v_iload_n (n := 5) xB_113 dX10_isKindOrUnder_4 rfl rfl ?_
        refine v_gst_0 (n := 8) xB_113 dX10_isKindOrUnder_5 xO_113 gs_10_291 rfl ?_
        refine v_alen (n := 9) (lz := 7) xB_113 dX10_isKindOrUnder_8 (sh_ka _ _ _) (by decide) rfl rfl ?_
        refine v_ic_ge_n (n := 12) xB_113 dX10_isKindOrUnder_9 (by decide) rfl (by decide) ?_
        refine v_iload_n (n := 13) xB_113 dX10_isKindOrUnder_12 rfl rfl ?_
        refine v_iload_n (n := 14) xB_113 dX10_isKindOrUnder_13 rfl rfl ?_
        refine v_ic_le (t := 29) (n := 17) xB_113 dX10_isKindOrUnder_14 (by decide) rfl rfl (fun g5 => ?_) (fun g5 => ?_)
        · refine v_iload_n (n := 30) xB_113 dX10_isKindOrUnder_29 rfl rfl ?_
          refine v_iload_n (n := 31) xB_113 dX10_isKindOrUnder_30 rfl rfl ?_
          refine v_ic_ne (t := 38) (n := 34) xB_113 dX10_isKindOrUnder_31 (by decide) rfl rfl (fun g6 => ?_) (fun g6 => ?_)
          · refine v_iconst (n := 39) xB_113 dX10_isKindOrUnder_38 ⟨by decide, by decide⟩ rfl ?_
            refine v_ireturn1 xB_113 dX10_isKindOrUnder_39 xK_113 (by decide) ?_
            first | exact o1 (by first | omega | (simp only [sA_same, sA_s, ud_s, Int.reduceEq, if_true, if_false, ite_true, ite_false, ↓reduceIte, and_true, true_and, eq_self, Int.add_zero, Int.reduceAdd]; omega) | (simp (disch := omega) only [sA_same, sA_ne, ud_eq, ud_ne, Int.add_zero, Int.reduceAdd]; omega)) | exact o2 (by first | omega | (simp only [sA_same, sA_s, ud_s, Int.reduceEq, if_true, if_false, ite_true, ite_false, ↓reduceIte, and_true, true_and, eq_self, Int.add_zero, Int.reduceAdd]; omega) | (simp (disch := omega) only [sA_same, sA_ne, ud_eq, ud_ne, Int.add_zero, Int.reduceAdd]; omega))
          · refine v_iconst (n := 35) xB_113 dX10_isKindOrUnder_34 ⟨by decide, by decide⟩ rfl ?_
            refine v_goto (t := 39) xB_113 dX10_isKindOrUnder_35 (by decide) rfl ?_
            refine v_ireturn1 xB_113 dX10_isKindOrUnder_39 xK_113 (by decide) ?_
            first | exact o1 (by first | omega | (simp only [sA_same, sA_s, ud_s, Int.reduceEq, if_true, if_false, ite_true, ite_false, ↓reduceIte, and_true, true_and, eq_self, Int.add_zero, Int.reduceAdd]; omega) | (simp (disch := omega) only [sA_same, sA_ne, ud_eq, ud_ne, Int.add_zero, Int.reduceAdd]; omega)) | exact o2 (by first | omega | (simp only [sA_same, sA_s, ud_s, Int.reduceEq, if_true, if_false, ite_true, ite_false, ↓reduceIte, and_true, true_and, eq_self, Int.add_zero, Int.reduceAdd]; omega) | (simp (disch := omega) only [sA_same, sA_ne, ud_eq, ud_ne, Int.add_zero, Int.reduceAdd]; omega))
        · refine v_gst_0 (n := 20) xB_113 dX10_isKindOrUnder_17 xO_113 gs_10_291 rfl ?_
          refine v_iload_n (n := 21) xB_113 dX10_isKindOrUnder_20 rfl rfl ?_
          refine v_iaload (n := 22) (lz := 7) xB_113 dX10_isKindOrUnder_21 (sh_ka _ _ _) rfl (by first | omega | (simp only [sA_same, sA_s, ud_s, Int.reduceEq, if_true, if_false, ite_true, ite_false, ↓reduceIte, and_true, true_and, eq_self, Int.add_zero, Int.reduceAdd]; omega) | (simp (disch := omega) only [sA_same, sA_ne, ud_eq, ud_ne, Int.add_zero, Int.reduceAdd]; omega)) rfl ?_
          (try simp only [K0, K1, K2, K3, K4, K5, K6])
          refine v_istore_n2 (n := 23) xB_113 dX10_isKindOrUnder_22 rfl rfl ?_
          refine v_iinc3 (n := 26) xB_113 dX10_isKindOrUnder_23 rfl (by first | omega | (simp only [sA_same, sA_s, ud_s, Int.reduceEq, if_true, if_false, ite_true, ite_false, ↓reduceIte, and_true, true_and, eq_self, Int.add_zero, Int.reduceAdd]; omega) | (simp (disch := omega) only [sA_same, sA_ne, ud_eq, ud_ne, Int.add_zero, Int.reduceAdd]; omega)) rfl ?_
          refine v_goto (t := 4) xB_113 dX10_isKindOrUnder_26 (by decide) rfl ?_
          refine v_iload_n (n := 5) xB_113 dX10_isKindOrUnder_4 rfl rfl ?_
          refine v_gst_0 (n := 8) xB_113 dX10_isKindOrUnder_5 xO_113 gs_10_291 rfl ?_
          refine v_alen (n := 9) (lz := 7) xB_113 dX10_isKindOrUnder_8 (sh_ka _ _ _) (by decide) rfl rfl ?_
          refine v_ic_ge_n (n := 12) xB_113 dX10_isKindOrUnder_9 (by decide) rfl (by decide) ?_
          refine v_iload_n (n := 13) xB_113 dX10_isKindOrUnder_12 rfl rfl ?_
          refine v_iload_n (n := 14) xB_113 dX10_isKindOrUnder_13 rfl rfl ?_
          refine v_ic_le (t := 29) (n := 17) xB_113 dX10_isKindOrUnder_14 (by decide) rfl rfl (fun g7 => ?_) (fun g7 => ?_)
          · refine v_iload_n (n := 30) xB_113 dX10_isKindOrUnder_29 rfl rfl ?_
            refine v_iload_n (n := 31) xB_113 dX10_isKindOrUnder_30 rfl rfl ?_
            refine v_ic_ne (t := 38) (n := 34) xB_113 dX10_isKindOrUnder_31 (by decide) rfl rfl (fun g8 => ?_) (fun g8 => ?_)
            · refine v_iconst (n := 39) xB_113 dX10_isKindOrUnder_38 ⟨by decide, by decide⟩ rfl ?_
              refine v_ireturn1 xB_113 dX10_isKindOrUnder_39 xK_113 (by decide) ?_
              first | exact o1 (by first | omega | (simp only [sA_same, sA_s, ud_s, Int.reduceEq, if_true, if_false, ite_true, ite_false, ↓reduceIte, and_true, true_and, eq_self, Int.add_zero, Int.reduceAdd]; omega) | (simp (disch := omega) only [sA_same, sA_ne, ud_eq, ud_ne, Int.add_zero, Int.reduceAdd]; omega)) | exact o2 (by first | omega | (simp only [sA_same, sA_s, ud_s, Int.reduceEq, if_true, if_false, ite_true, ite_false, ↓reduceIte, and_true, true_and, eq_self, Int.add_zero, Int.reduceAdd]; omega) | (simp (disch := omega) only [sA_same, sA_ne, ud_eq, ud_ne, Int.add_zero, Int.reduceAdd]; omega))
            · refine v_iconst (n := 35) xB_113 dX10_isKindOrUnder_34 ⟨by decide, by decide⟩ rfl ?_
              refine v_goto (t := 39) xB_113 dX10_isKindOrUnder_35 (by decide) rfl ?_
              refine v_ireturn1 xB_113 dX10_isKindOrUnder_39 xK_113 (by decide) ?_
              first | exact o1 (by first | omega | (simp only [sA_same, sA_s, ud_s, Int.reduceEq, if_true, if_false, ite_true, ite_false, ↓reduceIte, and_true, true_and, eq_self, Int.add_zero, Int.reduceAdd]; omega) | (simp (disch := omega) only [sA_same, sA_ne, ud_eq, ud_ne, Int.add_zero, Int.reduceAdd]; omega)) | exact o2 (by first | omega | (simp only [sA_same, sA_s, ud_s, Int.reduceEq, if_true, if_false, ite_true, ite_false, ↓reduceIte, and_true, true_and, eq_self, Int.add_zero, Int.reduceAdd]; omega) | (simp (disch := omega) only [sA_same, sA_ne, ud_eq, ud_ne, Int.add_zero, Int.reduceAdd]; omega))
          · refine v_gst_0 (n := 20) xB_113 dX10_isKindOrUnder_17 xO_113 gs_10_291 rfl ?_
            refine v_iload_n (n := 21) xB_113 dX10_isKindOrUnder_20 rfl rfl ?_
            refine v_iaload (n := 22) (lz := 7) xB_113 dX10_isKindOrUnder_21 (sh_ka _ _ _) rfl (by first | omega | (simp only [sA_same, sA_s, ud_s, Int.reduceEq, if_true, if_false, ite_true, ite_false, ↓reduceIte, and_true, true_and, eq_self, Int.add_zero, Int.reduceAdd]; omega) | (simp (disch := omega) only [sA_same, sA_ne, ud_eq, ud_ne, Int.add_zero, Int.reduceAdd]; omega)) rfl ?_
            (try simp only [K0, K1, K2, K3, K4, K5, K6])
            refine v_istore_n2 (n := 23) xB_113 dX10_isKindOrUnder_22 rfl rfl ?_
            refine v_iinc3 (n := 26) xB_113 dX10_isKindOrUnder_23 rfl (by first | omega | (simp only [sA_same, sA_s, ud_s, Int.reduceEq, if_true, if_false, ite_true, ite_false, ↓reduceIte, and_true, true_and, eq_self, Int.add_zero, Int.reduceAdd]; omega) | (simp (disch := omega) only [sA_same, sA_ne, ud_eq, ud_ne, Int.add_zero, Int.reduceAdd]; omega)) rfl ?_
            refine v_goto (t := 4) xB_113 dX10_isKindOrUnder_26 (by decide) rfl ?_
            refine v_iload_n (n := 5) xB_113 dX10_isKindOrUnder_4 rfl rfl ?_
            refine v_gst_0 (n := 8) xB_113 dX10_isKindOrUnder_5 xO_113 gs_10_291 rfl ?_
            refine v_alen (n := 9) (lz := 7) xB_113 dX10_isKindOrUnder_8 (sh_ka _ _ _) (by decide) rfl rfl ?_
            refine v_ic_ge_n (n := 12) xB_113 dX10_isKindOrUnder_9 (by decide) rfl (by decide) ?_
            refine v_iload_n (n := 13) xB_113 dX10_isKindOrUnder_12 rfl rfl ?_
            refine v_iload_n (n := 14) xB_113 dX10_isKindOrUnder_13 rfl rfl ?_
            refine v_ic_le (t := 29) (n := 17) xB_113 dX10_isKindOrUnder_14 (by decide) rfl rfl (fun g9 => ?_) (fun g9 => ?_)
            · refine v_iload_n (n := 30) xB_113 dX10_isKindOrUnder_29 rfl rfl ?_
              refine v_iload_n (n := 31) xB_113 dX10_isKindOrUnder_30 rfl rfl ?_
              refine v_ic_ne (t := 38) (n := 34) xB_113 dX10_isKindOrUnder_31 (by decide) rfl rfl (fun g10 => ?_) (fun g10 => ?_)
              · refine v_iconst (n := 39) xB_113 dX10_isKindOrUnder_38 ⟨by decide, by decide⟩ rfl ?_
                refine v_ireturn1 xB_113 dX10_isKindOrUnder_39 xK_113 (by decide) ?_
                first | exact o1 (by first | omega | (simp only [sA_same, sA_s, ud_s, Int.reduceEq, if_true, if_false, ite_true, ite_false, ↓reduceIte, and_true, true_and, eq_self, Int.add_zero, Int.reduceAdd]; omega) | (simp (disch := omega) only [sA_same, sA_ne, ud_eq, ud_ne, Int.add_zero, Int.reduceAdd]; omega)) | exact o2 (by first | omega | (simp only [sA_same, sA_s, ud_s, Int.reduceEq, if_true, if_false, ite_true, ite_false, ↓reduceIte, and_true, true_and, eq_self, Int.add_zero, Int.reduceAdd]; omega) | (simp (disch := omega) only [sA_same, sA_ne, ud_eq, ud_ne, Int.add_zero, Int.reduceAdd]; omega))
              · refine v_iconst (n := 35) xB_113 dX10_isKindOrUnder_34 ⟨by decide, by decide⟩ rfl ?_
                refine v_goto (t := 39) xB_113 dX10_isKindOrUnder_35 (by decide) rfl ?_
                refine v_ireturn1 xB_113 dX10_isKindOrUnder_39 xK_113 (by decide) ?_
                first | exact o1 (by first | omega | (simp only [sA_same, sA_s, ud_s, Int.reduceEq, if_true, if_false, ite_true, ite_false, ↓reduceIte, and_true, true_and, eq_self, Int.add_zero, Int.reduceAdd]; omega) | (simp (disch := omega) only [sA_same, sA_ne, ud_eq, ud_ne, Int.add_zero, Int.reduceAdd]; omega)) | exact o2 (by first | omega | (simp only [sA_same, sA_s, ud_s, Int.reduceEq, if_true, if_false, ite_true, ite_false, ↓reduceIte, and_true, true_and, eq_self, Int.add_zero, Int.reduceAdd]; omega) | (simp (disch := omega) only [sA_same, sA_ne, ud_eq, ud_ne, Int.add_zero, Int.reduceAdd]; omega))
            · refine v_gst_0 (n := 20) xB_113 dX10_isKindOrUnder_17 xO_113 gs_10_291 rfl ?_
              refine v_iload_n (n := 21) xB_113 dX10_isKindOrUnder_20 rfl rfl ?_
              refine v_iaload (n := 22) (lz := 7) xB_113 dX10_isKindOrUnder_21 (sh_ka _ _ _) rfl (by first | omega | (simp only [sA_same, sA_s, ud_s, Int.reduceEq, if_true, if_false, ite_true, ite_false, ↓reduceIte, and_true, true_and, eq_self, Int.add_zero, Int.reduceAdd]; omega) | (simp (disch := omega) only [sA_same, sA_ne, ud_eq, ud_ne, Int.add_zero, Int.reduceAdd]; omega)) rfl ?_
              (try simp only [K0, K1, K2, K3, K4, K5, K6])
              refine v_istore_n2 (n := 23) xB_113 dX10_isKindOrUnder_22 rfl rfl ?_
              refine v_iinc3 (n := 26) xB_113 dX10_isKindOrUnder_23 rfl (by first | omega | (simp only [sA_same, sA_s, ud_s, Int.reduceEq, if_true, if_false, ite_true, ite_false, ↓reduceIte, and_true, true_and, eq_self, Int.add_zero, Int.reduceAdd]; omega) | (simp (disch := omega) only [sA_same, sA_ne, ud_eq, ud_ne, Int.add_zero, Int.reduceAdd]; omega)) rfl ?_
              refine v_goto (t := 4) xB_113 dX10_isKindOrUnder_26 (by decide) rfl ?_
              refine v_iload_n (n := 5) xB_113 dX10_isKindOrUnder_4 rfl rfl ?_
              refine v_gst_0 (n := 8) xB_113 dX10_isKindOrUnder_5 xO_113 gs_10_291 rfl ?_
              refine v_alen (n := 9) (lz := 7) xB_113 dX10_isKindOrUnder_8 (sh_ka _ _ _) (by decide) rfl rfl ?_
              refine v_ic_ge_n (n := 12) xB_113 dX10_isKindOrUnder_9 (by decide) rfl (by decide) ?_
              refine v_iload_n (n := 13) xB_113 dX10_isKindOrUnder_12 rfl rfl ?_
              refine v_iload_n (n := 14) xB_113 dX10_isKindOrUnder_13 rfl rfl ?_
              refine v_ic_le (t := 29) (n := 17) xB_113 dX10_isKindOrUnder_14 (by decide) rfl rfl (fun g11 => ?_) (fun g11 => ?_)
              · refine v_iload_n (n := 30) xB_113 dX10_isKindOrUnder_29 rfl rfl ?_
                refine v_iload_n (n := 31) xB_113 dX10_isKindOrUnder_30 rfl rfl ?_
                refine v_ic_ne (t := 38) (n := 34) xB_113 dX10_isKindOrUnder_31 (by decide) rfl rfl (fun g12 => ?_) (fun g12 => ?_)
                · refine v_iconst (n := 39) xB_113 dX10_isKindOrUnder_38 ⟨by decide, by decide⟩ rfl ?_
                  refine v_ireturn1 xB_113 dX10_isKindOrUnder_39 xK_113 (by decide) ?_
                  first | exact o1 (by first | omega | (simp only [sA_same, sA_s, ud_s, Int.reduceEq, if_true, if_false, ite_true, ite_false, ↓reduceIte, and_true, true_and, eq_self, Int.add_zero, Int.reduceAdd]; omega) | (simp (disch := omega) only [sA_same, sA_ne, ud_eq, ud_ne, Int.add_zero, Int.reduceAdd]; omega)) | exact o2 (by first | omega | (simp only [sA_same, sA_s, ud_s, Int.reduceEq, if_true, if_false, ite_true, ite_false, ↓reduceIte, and_true, true_and, eq_self, Int.add_zero, Int.reduceAdd]; omega) | (simp (disch := omega) only [sA_same, sA_ne, ud_eq, ud_ne, Int.add_zero, Int.reduceAdd]; omega))
                · refine v_iconst (n := 35) xB_113 dX10_isKindOrUnder_34 ⟨by decide, by decide⟩ rfl ?_
                  refine v_goto (t := 39) xB_113 dX10_isKindOrUnder_35 (by decide) rfl ?_
                  refine v_ireturn1 xB_113 dX10_isKindOrUnder_39 xK_113 (by decide) ?_
                  first | exact o1 (by first | omega | (simp only [sA_same, sA_s, ud_s, Int.reduceEq, if_true, if_false, ite_true, ite_false, ↓reduceIte, and_true, true_and, eq_self, Int.add_zero, Int.reduceAdd]; omega) | (simp (disch := omega) only [sA_same, sA_ne, ud_eq, ud_ne, Int.add_zero, Int.reduceAdd]; omega)) | exact o2 (by first | omega | (simp only [sA_same, sA_s, ud_s, Int.reduceEq, if_true, if_false, ite_true, ite_false, ↓reduceIte, and_true, true_and, eq_self, Int.add_zero, Int.reduceAdd]; omega) | (simp (disch := omega) only [sA_same, sA_ne, ud_eq, ud_ne, Int.add_zero, Int.reduceAdd]; omega))
              · refine v_gst_0 (n := 20) xB_113 dX10_isKindOrUnder_17 xO_113 gs_10_291 rfl ?_
                refine v_iload_n (n := 21) xB_113 dX10_isKindOrUnder_20 rfl rfl ?_
                refine v_iaload (n := 22) (lz := 7) xB_113 dX10_isKindOrUnder_21 (sh_ka _ _ _) rfl (by first | omega | (simp only [sA_same, sA_s, ud_s, Int.reduceEq, if_true, if_false, ite_true, ite_false, ↓reduceIte, and_true, true_and, eq_self, Int.add_zero, Int.reduceAdd]; omega) | (simp (disch := omega) only [sA_same, sA_ne, ud_eq, ud_ne, Int.add_zero, Int.reduceAdd]; omega)) rfl ?_
                (try simp only [K0, K1, K2, K3, K4, K5, K6])
                refine v_istore_n2 (n := 23) xB_113 dX10_isKindOrUnder_22 rfl rfl ?_
                refine v_iinc3 (n := 26) xB_113 dX10_isKindOrUnder_23 rfl (by first | omega | (simp only [sA_same, sA_s, ud_s, Int.reduceEq, if_true, if_false, ite_true, ite_false, ↓reduceIte, and_true, true_and, eq_self, Int.add_zero, Int.reduceAdd]; omega) | (simp (disch := omega) only [sA_same, sA_ne, ud_eq, ud_ne, Int.add_zero, Int.reduceAdd]; omega)) rfl ?_
                refine v_goto (t := 4) xB_113 dX10_isKindOrUnder_26 (by decide) rfl ?_
                refine v_iload_n (n := 5) xB_113 dX10_isKindOrUnder_4 rfl rfl ?_
                refine v_gst_0 (n := 8) xB_113 dX10_isKindOrUnder_5 xO_113 gs_10_291 rfl ?_
                refine v_alen (n := 9) (lz := 7) xB_113 dX10_isKindOrUnder_8 (sh_ka _ _ _) (by decide) rfl rfl ?_
                refine v_ic_ge_n (n := 12) xB_113 dX10_isKindOrUnder_9 (by decide) rfl (by decide) ?_
                refine v_iload_n (n := 13) xB_113 dX10_isKindOrUnder_12 rfl rfl ?_
                refine v_iload_n (n := 14) xB_113 dX10_isKindOrUnder_13 rfl rfl ?_
                refine v_ic_le (t := 29) (n := 17) xB_113 dX10_isKindOrUnder_14 (by decide) rfl rfl (fun g13 => ?_) (fun g13 => ?_)
                · refine v_iload_n (n := 30) xB_113 dX10_isKindOrUnder_29 rfl rfl ?_
                  refine v_iload_n (n := 31) xB_113 dX10_isKindOrUnder_30 rfl rfl ?_
                  refine v_ic_ne (t := 38) (n := 34) xB_113 dX10_isKindOrUnder_31 (by decide) rfl rfl (fun g14 => ?_) (fun g14 => ?_)
                  · refine v_iconst (n := 39) xB_113 dX10_isKindOrUnder_38 ⟨by decide, by decide⟩ rfl ?_
                    refine v_ireturn1 xB_113 dX10_isKindOrUnder_39 xK_113 (by decide) ?_
                    first | exact o1 (by first | omega | (simp only [sA_same, sA_s, ud_s, Int.reduceEq, if_true, if_false, ite_true, ite_false, ↓reduceIte, and_true, true_and, eq_self, Int.add_zero, Int.reduceAdd]; omega) | (simp (disch := omega) only [sA_same, sA_ne, ud_eq, ud_ne, Int.add_zero, Int.reduceAdd]; omega)) | exact o2 (by first | omega | (simp only [sA_same, sA_s, ud_s, Int.reduceEq, if_true, if_false, ite_true, ite_false, ↓reduceIte, and_true, true_and, eq_self, Int.add_zero, Int.reduceAdd]; omega) | (simp (disch := omega) only [sA_same, sA_ne, ud_eq, ud_ne, Int.add_zero, Int.reduceAdd]; omega))
                  · refine v_iconst (n := 35) xB_113 dX10_isKindOrUnder_34 ⟨by decide, by decide⟩ rfl ?_
                    refine v_goto (t := 39) xB_113 dX10_isKindOrUnder_35 (by decide) rfl ?_
                    refine v_ireturn1 xB_113 dX10_isKindOrUnder_39 xK_113 (by decide) ?_
                    first | exact o1 (by first | omega | (simp only [sA_same, sA_s, ud_s, Int.reduceEq, if_true, if_false, ite_true, ite_false, ↓reduceIte, and_true, true_and, eq_self, Int.add_zero, Int.reduceAdd]; omega) | (simp (disch := omega) only [sA_same, sA_ne, ud_eq, ud_ne, Int.add_zero, Int.reduceAdd]; omega)) | exact o2 (by first | omega | (simp only [sA_same, sA_s, ud_s, Int.reduceEq, if_true, if_false, ite_true, ite_false, ↓reduceIte, and_true, true_and, eq_self, Int.add_zero, Int.reduceAdd]; omega) | (simp (disch := omega) only [sA_same, sA_ne, ud_eq, ud_ne, Int.add_zero, Int.reduceAdd]; omega))
                · refine v_gst_0 (n := 20) xB_113 dX10_isKindOrUnder_17 xO_113 gs_10_291 rfl ?_
                  refine v_iload_n (n := 21) xB_113 dX10_isKindOrUnder_20 rfl rfl ?_
                  refine v_iaload (n := 22) (lz := 7) xB_113 dX10_isKindOrUnder_21 (sh_ka _ _ _) rfl (by first | omega | (simp only [sA_same, sA_s, ud_s, Int.reduceEq, if_true, if_false, ite_true, ite_false, ↓reduceIte, and_true, true_and, eq_self, Int.add_zero, Int.reduceAdd]; omega) | (simp (disch := omega) only [sA_same, sA_ne, ud_eq, ud_ne, Int.add_zero, Int.reduceAdd]; omega)) rfl ?_
                  (try simp only [K0, K1, K2, K3, K4, K5, K6])
                  refine v_istore_n2 (n := 23) xB_113 dX10_isKindOrUnder_22 rfl rfl ?_
                  refine v_iinc3 (n := 26) xB_113 dX10_isKindOrUnder_23 rfl (by first | omega | (simp only [sA_same, sA_s, ud_s, Int.reduceEq, if_true, if_false, ite_true, ite_false, ↓reduceIte, and_true, true_and, eq_self, Int.add_zero, Int.reduceAdd]; omega) | (simp (disch := omega) only [sA_same, sA_ne, ud_eq, ud_ne, Int.add_zero, Int.reduceAdd]; omega)) rfl ?_
                  refine v_goto (t := 4) xB_113 dX10_isKindOrUnder_26 (by decide) rfl ?_
                  refine v_iload_n (n := 5) xB_113 dX10_isKindOrUnder_4 rfl rfl ?_
                  refine v_gst_0 (n := 8) xB_113 dX10_isKindOrUnder_5 xO_113 gs_10_291 rfl ?_
                  refine v_alen (n := 9) (lz := 7) xB_113 dX10_isKindOrUnder_8 (sh_ka _ _ _) (by decide) rfl rfl ?_
                  refine v_ic_ge_y (t := 29) xB_113 dX10_isKindOrUnder_9 (by decide) rfl (by decide) ?_
                  refine v_iload_n (n := 30) xB_113 dX10_isKindOrUnder_29 rfl rfl ?_
                  refine v_iload_n (n := 31) xB_113 dX10_isKindOrUnder_30 rfl rfl ?_
                  refine v_ic_ne (t := 38) (n := 34) xB_113 dX10_isKindOrUnder_31 (by decide) rfl rfl (fun g15 => ?_) (fun g15 => ?_)
                  · refine v_iconst (n := 39) xB_113 dX10_isKindOrUnder_38 ⟨by decide, by decide⟩ rfl ?_
                    refine v_ireturn1 xB_113 dX10_isKindOrUnder_39 xK_113 (by decide) ?_
                    first | exact o1 (by first | omega | (simp only [sA_same, sA_s, ud_s, Int.reduceEq, if_true, if_false, ite_true, ite_false, ↓reduceIte, and_true, true_and, eq_self, Int.add_zero, Int.reduceAdd]; omega) | (simp (disch := omega) only [sA_same, sA_ne, ud_eq, ud_ne, Int.add_zero, Int.reduceAdd]; omega)) | exact o2 (by first | omega | (simp only [sA_same, sA_s, ud_s, Int.reduceEq, if_true, if_false, ite_true, ite_false, ↓reduceIte, and_true, true_and, eq_self, Int.add_zero, Int.reduceAdd]; omega) | (simp (disch := omega) only [sA_same, sA_ne, ud_eq, ud_ne, Int.add_zero, Int.reduceAdd]; omega))
                  · refine v_iconst (n := 35) xB_113 dX10_isKindOrUnder_34 ⟨by decide, by decide⟩ rfl ?_
                    refine v_goto (t := 39) xB_113 dX10_isKindOrUnder_35 (by decide) rfl ?_
                    refine v_ireturn1 xB_113 dX10_isKindOrUnder_39 xK_113 (by decide) ?_
                    first | exact o1 (by first | omega | (simp only [sA_same, sA_s, ud_s, Int.reduceEq, if_true, if_false, ite_true, ite_false, ↓reduceIte, and_true, true_and, eq_self, Int.add_zero, Int.reduceAdd]; omega) | (simp (disch := omega) only [sA_same, sA_ne, ud_eq, ud_ne, Int.add_zero, Int.reduceAdd]; omega)) | exact o2 (by first | omega | (simp only [sA_same, sA_s, ud_s, Int.reduceEq, if_true, if_false, ite_true, ite_false, ↓reduceIte, and_true, true_and, eq_self, Int.add_zero, Int.reduceAdd]; omega) | (simp (disch := omega) only [sA_same, sA_ne, ud_eq, ud_ne, Int.add_zero, Int.reduceAdd]; omega))
  · subst hx
    refine v_iload_n (n := 1) xB_113 dX10_isKindOrUnder_0 rfl rfl ?_
    refine v_istore_n2 (n := 2) xB_113 dX10_isKindOrUnder_1 rfl rfl ?_
    refine v_iconst (n := 3) xB_113 dX10_isKindOrUnder_2 ⟨by decide, by decide⟩ rfl ?_
    refine v_istore_n3 (n := 4) xB_113 dX10_isKindOrUnder_3 rfl rfl ?_
    refine v_iload_n (n := 5) xB_113 dX10_isKindOrUnder_4 rfl rfl ?_
    refine v_gst_0 (n := 8) xB_113 dX10_isKindOrUnder_5 xO_113 gs_10_291 rfl ?_
    refine v_alen (n := 9) (lz := 7) xB_113 dX10_isKindOrUnder_8 (sh_ka _ _ _) (by decide) rfl rfl ?_
    refine v_ic_ge_n (n := 12) xB_113 dX10_isKindOrUnder_9 (by decide) rfl (by decide) ?_
    refine v_iload_n (n := 13) xB_113 dX10_isKindOrUnder_12 rfl rfl ?_
    refine v_iload_n (n := 14) xB_113 dX10_isKindOrUnder_13 rfl rfl ?_
    refine v_ic_le (t := 29) (n := 17) xB_113 dX10_isKindOrUnder_14 (by decide) rfl rfl (fun g1 => ?_) (fun g1 => ?_)
    · refine v_iload_n (n := 30) xB_113 dX10_isKindOrUnder_29 rfl rfl ?_
      refine v_iload_n (n := 31) xB_113 dX10_isKindOrUnder_30 rfl rfl ?_
      refine v_ic_ne (t := 38) (n := 34) xB_113 dX10_isKindOrUnder_31 (by decide) rfl rfl (fun g2 => ?_) (fun g2 => ?_)
      · refine v_iconst (n := 39) xB_113 dX10_isKindOrUnder_38 ⟨by decide, by decide⟩ rfl ?_
        refine v_ireturn1 xB_113 dX10_isKindOrUnder_39 xK_113 (by decide) ?_
        first | exact o1 (by first | omega | (simp only [sA_same, sA_s, ud_s, Int.reduceEq, if_true, if_false, ite_true, ite_false, ↓reduceIte, and_true, true_and, eq_self, Int.add_zero, Int.reduceAdd]; omega) | (simp (disch := omega) only [sA_same, sA_ne, ud_eq, ud_ne, Int.add_zero, Int.reduceAdd]; omega)) | exact o2 (by first | omega | (simp only [sA_same, sA_s, ud_s, Int.reduceEq, if_true, if_false, ite_true, ite_false, ↓reduceIte, and_true, true_and, eq_self, Int.add_zero, Int.reduceAdd]; omega) | (simp (disch := omega) only [sA_same, sA_ne, ud_eq, ud_ne, Int.add_zero, Int.reduceAdd]; omega))
      · refine v_iconst (n := 35) xB_113 dX10_isKindOrUnder_34 ⟨by decide, by decide⟩ rfl ?_
        refine v_goto (t := 39) xB_113 dX10_isKindOrUnder_35 (by decide) rfl ?_
        refine v_ireturn1 xB_113 dX10_isKindOrUnder_39 xK_113 (by decide) ?_
        first | exact o1 (by first | omega | (simp only [sA_same, sA_s, ud_s, Int.reduceEq, if_true, if_false, ite_true, ite_false, ↓reduceIte, and_true, true_and, eq_self, Int.add_zero, Int.reduceAdd]; omega) | (simp (disch := omega) only [sA_same, sA_ne, ud_eq, ud_ne, Int.add_zero, Int.reduceAdd]; omega)) | exact o2 (by first | omega | (simp only [sA_same, sA_s, ud_s, Int.reduceEq, if_true, if_false, ite_true, ite_false, ↓reduceIte, and_true, true_and, eq_self, Int.add_zero, Int.reduceAdd]; omega) | (simp (disch := omega) only [sA_same, sA_ne, ud_eq, ud_ne, Int.add_zero, Int.reduceAdd]; omega))
    · refine v_gst_0 (n := 20) xB_113 dX10_isKindOrUnder_17 xO_113 gs_10_291 rfl ?_
      refine v_iload_n (n := 21) xB_113 dX10_isKindOrUnder_20 rfl rfl ?_
      refine v_iaload (n := 22) (lz := 7) xB_113 dX10_isKindOrUnder_21 (sh_ka _ _ _) rfl (by first | omega | (simp only [sA_same, sA_s, ud_s, Int.reduceEq, if_true, if_false, ite_true, ite_false, ↓reduceIte, and_true, true_and, eq_self, Int.add_zero, Int.reduceAdd]; omega) | (simp (disch := omega) only [sA_same, sA_ne, ud_eq, ud_ne, Int.add_zero, Int.reduceAdd]; omega)) rfl ?_
      (try simp only [K0, K1, K2, K3, K4, K5, K6])
      refine v_istore_n2 (n := 23) xB_113 dX10_isKindOrUnder_22 rfl rfl ?_
      refine v_iinc3 (n := 26) xB_113 dX10_isKindOrUnder_23 rfl (by first | omega | (simp only [sA_same, sA_s, ud_s, Int.reduceEq, if_true, if_false, ite_true, ite_false, ↓reduceIte, and_true, true_and, eq_self, Int.add_zero, Int.reduceAdd]; omega) | (simp (disch := omega) only [sA_same, sA_ne, ud_eq, ud_ne, Int.add_zero, Int.reduceAdd]; omega)) rfl ?_
      refine v_goto (t := 4) xB_113 dX10_isKindOrUnder_26 (by decide) rfl ?_
      refine v_iload_n (n := 5) xB_113 dX10_isKindOrUnder_4 rfl rfl ?_
      refine v_gst_0 (n := 8) xB_113 dX10_isKindOrUnder_5 xO_113 gs_10_291 rfl ?_
      refine v_alen (n := 9) (lz := 7) xB_113 dX10_isKindOrUnder_8 (sh_ka _ _ _) (by decide) rfl rfl ?_
      refine v_ic_ge_n (n := 12) xB_113 dX10_isKindOrUnder_9 (by decide) rfl (by decide) ?_
      refine v_iload_n (n := 13) xB_113 dX10_isKindOrUnder_12 rfl rfl ?_
      refine v_iload_n (n := 14) xB_113 dX10_isKindOrUnder_13 rfl rfl ?_
      refine v_ic_le (t := 29) (n := 17) xB_113 dX10_isKindOrUnder_14 (by decide) rfl rfl (fun g3 => ?_) (fun g3 => ?_)
      · refine v_iload_n (n := 30) xB_113 dX10_isKindOrUnder_29 rfl rfl ?_
        refine v_iload_n (n := 31) xB_113 dX10_isKindOrUnder_30 rfl rfl ?_
        refine v_ic_ne (t := 38) (n := 34) xB_113 dX10_isKindOrUnder_31 (by decide) rfl rfl (fun g4 => ?_) (fun g4 => ?_)
        · refine v_iconst (n := 39) xB_113 dX10_isKindOrUnder_38 ⟨by decide, by decide⟩ rfl ?_
          refine v_ireturn1 xB_113 dX10_isKindOrUnder_39 xK_113 (by decide) ?_
          first | exact o1 (by first | omega | (simp only [sA_same, sA_s, ud_s, Int.reduceEq, if_true, if_false, ite_true, ite_false, ↓reduceIte, and_true, true_and, eq_self, Int.add_zero, Int.reduceAdd]; omega) | (simp (disch := omega) only [sA_same, sA_ne, ud_eq, ud_ne, Int.add_zero, Int.reduceAdd]; omega)) | exact o2 (by first | omega | (simp only [sA_same, sA_s, ud_s, Int.reduceEq, if_true, if_false, ite_true, ite_false, ↓reduceIte, and_true, true_and, eq_self, Int.add_zero, Int.reduceAdd]; omega) | (simp (disch := omega) only [sA_same, sA_ne, ud_eq, ud_ne, Int.add_zero, Int.reduceAdd]; omega))
        · refine v_iconst (n := 35) xB_113 dX10_isKindOrUnder_34 ⟨by decide, by decide⟩ rfl ?_
          refine v_goto (t := 39) xB_113 dX10_isKindOrUnder_35 (by decide) rfl ?_
          refine v_ireturn1 xB_113 dX10_isKindOrUnder_39 xK_113 (by decide) ?_
          first | exact o1 (by first | omega | (simp only [sA_same, sA_s, ud_s, Int.reduceEq, if_true, if_false, ite_true, ite_false, ↓reduceIte, and_true, true_and, eq_self, Int.add_zero, Int.reduceAdd]; omega) | (simp (disch := omega) only [sA_same, sA_ne, ud_eq, ud_ne, Int.add_zero, Int.reduceAdd]; omega)) | exact o2 (by first | omega | (simp only [sA_same, sA_s, ud_s, Int.reduceEq, if_true, if_false, ite_true, ite_false, ↓reduceIte, and_true, true_and, eq_self, Int.add_zero, Int.reduceAdd]; omega) | (simp (disch := omega) only [sA_same, sA_ne, ud_eq, ud_ne, Int.add_zero, Int.reduceAdd]; omega))
      · refine v_gst_0 (n := 20) xB_113 dX10_isKindOrUnder_17 xO_113 gs_10_291 rfl ?_
        refine v_iload_n (n := 21) xB_113 dX10_isKindOrUnder_20 rfl rfl ?_
        refine v_iaload (n := 22) (lz := 7) xB_113 dX10_isKindOrUnder_21 (sh_ka _ _ _) rfl (by first | omega | (simp only [sA_same, sA_s, ud_s, Int.reduceEq, if_true, if_false, ite_true, ite_false, ↓reduceIte, and_true, true_and, eq_self, Int.add_zero, Int.reduceAdd]; omega) | (simp (disch := omega) only [sA_same, sA_ne, ud_eq, ud_ne, Int.add_zero, Int.reduceAdd]; omega)) rfl ?_
        (try simp only [K0, K1, K2, K3, K4, K5, K6])
        refine v_istore_n2 (n := 23) xB_113 dX10_isKindOrUnder_22 rfl rfl ?_
        refine v_iinc3 (n := 26) xB_113 dX10_isKindOrUnder_23 rfl (by first | omega | (simp only [sA_same, sA_s, ud_s, Int.reduceEq, if_true, if_false, ite_true, ite_false, ↓reduceIte, and_true, true_and, eq_self, Int.add_zero, Int.reduceAdd]; omega) | (simp (disch := omega) only [sA_same, sA_ne, ud_eq, ud_ne, Int.add_zero, Int.reduceAdd]; omega)) rfl ?_
        refine v_goto (t := 4) xB_113 dX10_isKindOrUnder_26 (by decide) rfl ?_
        refine v_iload_n (n := 5) xB_113 dX10_isKindOrUnder_4 rfl rfl ?_
        refine v_gst_0 (n := 8) xB_113 dX10_isKindOrUnder_5 xO_113 gs_10_291 rfl ?_
        refine v_alen (n := 9) (lz := 7) xB_113 dX10_isKindOrUnder_8 (sh_ka _ _ _) (by decide) rfl rfl ?_
        refine v_ic_ge_n (n := 12) xB_113 dX10_isKindOrUnder_9 (by decide) rfl (by decide) ?_
        refine v_iload_n (n := 13) xB_113 dX10_isKindOrUnder_12 rfl rfl ?_
        refine v_iload_n (n := 14) xB_113 dX10_isKindOrUnder_13 rfl rfl ?_
        refine v_ic_le (t := 29) (n := 17) xB_113 dX10_isKindOrUnder_14 (by decide) rfl rfl (fun g5 => ?_) (fun g5 => ?_)
        · refine v_iload_n (n := 30) xB_113 dX10_isKindOrUnder_29 rfl rfl ?_
          refine v_iload_n (n := 31) xB_113 dX10_isKindOrUnder_30 rfl rfl ?_
          refine v_ic_ne (t := 38) (n := 34) xB_113 dX10_isKindOrUnder_31 (by decide) rfl rfl (fun g6 => ?_) (fun g6 => ?_)
          · refine v_iconst (n := 39) xB_113 dX10_isKindOrUnder_38 ⟨by decide, by decide⟩ rfl ?_
            refine v_ireturn1 xB_113 dX10_isKindOrUnder_39 xK_113 (by decide) ?_
            first | exact o1 (by first | omega | (simp only [sA_same, sA_s, ud_s, Int.reduceEq, if_true, if_false, ite_true, ite_false, ↓reduceIte, and_true, true_and, eq_self, Int.add_zero, Int.reduceAdd]; omega) | (simp (disch := omega) only [sA_same, sA_ne, ud_eq, ud_ne, Int.add_zero, Int.reduceAdd]; omega)) | exact o2 (by first | omega | (simp only [sA_same, sA_s, ud_s, Int.reduceEq, if_true, if_false, ite_true, ite_false, ↓reduceIte, and_true, true_and, eq_self, Int.add_zero, Int.reduceAdd]; omega) | (simp (disch := omega) only [sA_same, sA_ne, ud_eq, ud_ne, Int.add_zero, Int.reduceAdd]; omega))
          · refine v_iconst (n := 35) xB_113 dX10_isKindOrUnder_34 ⟨by decide, by decide⟩ rfl ?_
            refine v_goto (t := 39) xB_113 dX10_isKindOrUnder_35 (by decide) rfl ?_
            refine v_ireturn1 xB_113 dX10_isKindOrUnder_39 xK_113 (by decide) ?_
            first | exact o1 (by first | omega | (simp only [sA_same, sA_s, ud_s, Int.reduceEq, if_true, if_false, ite_true, ite_false, ↓reduceIte, and_true, true_and, eq_self, Int.add_zero, Int.reduceAdd]; omega) | (simp (disch := omega) only [sA_same, sA_ne, ud_eq, ud_ne, Int.add_zero, Int.reduceAdd]; omega)) | exact o2 (by first | omega | (simp only [sA_same, sA_s, ud_s, Int.reduceEq, if_true, if_false, ite_true, ite_false, ↓reduceIte, and_true, true_and, eq_self, Int.add_zero, Int.reduceAdd]; omega) | (simp (disch := omega) only [sA_same, sA_ne, ud_eq, ud_ne, Int.add_zero, Int.reduceAdd]; omega))
        · refine v_gst_0 (n := 20) xB_113 dX10_isKindOrUnder_17 xO_113 gs_10_291 rfl ?_
          refine v_iload_n (n := 21) xB_113 dX10_isKindOrUnder_20 rfl rfl ?_
          refine v_iaload (n := 22) (lz := 7) xB_113 dX10_isKindOrUnder_21 (sh_ka _ _ _) rfl (by first | omega | (simp only [sA_same, sA_s, ud_s, Int.reduceEq, if_true, if_false, ite_true, ite_false, ↓reduceIte, and_true, true_and, eq_self, Int.add_zero, Int.reduceAdd]; omega) | (simp (disch := omega) only [sA_same, sA_ne, ud_eq, ud_ne, Int.add_zero, Int.reduceAdd]; omega)) rfl ?_
          (try simp only [K0, K1, K2, K3, K4, K5, K6])
          refine v_istore_n2 (n := 23) xB_113 dX10_isKindOrUnder_22 rfl rfl ?_
          refine v_iinc3 (n := 26) xB_113 dX10_isKindOrUnder_23 rfl (by first | omega | (simp only [sA_same, sA_s, ud_s, Int.reduceEq, if_true, if_false, ite_true, ite_false, ↓reduceIte, and_true, true_and, eq_self, Int.add_zero, Int.reduceAdd]; omega) | (simp (disch := omega) only [sA_same, sA_ne, ud_eq, ud_ne, Int.add_zero, Int.reduceAdd]; omega)) rfl ?_
          refine v_goto (t := 4) xB_113 dX10_isKindOrUnder_26 (by decide) rfl ?_
          refine v_iload_n (n := 5) xB_113 dX10_isKindOrUnder_4 rfl rfl ?_
          refine v_gst_0 (n := 8) xB_113 dX10_isKindOrUnder_5 xO_113 gs_10_291 rfl ?_
          refine v_alen (n := 9) (lz := 7) xB_113 dX10_isKindOrUnder_8 (sh_ka _ _ _) (by decide) rfl rfl ?_
          refine v_ic_ge_n (n := 12) xB_113 dX10_isKindOrUnder_9 (by decide) rfl (by decide) ?_
          refine v_iload_n (n := 13) xB_113 dX10_isKindOrUnder_12 rfl rfl ?_
          refine v_iload_n (n := 14) xB_113 dX10_isKindOrUnder_13 rfl rfl ?_
          refine v_ic_le (t := 29) (n := 17) xB_113 dX10_isKindOrUnder_14 (by decide) rfl rfl (fun g7 => ?_) (fun g7 => ?_)
          · refine v_iload_n (n := 30) xB_113 dX10_isKindOrUnder_29 rfl rfl ?_
            refine v_iload_n (n := 31) xB_113 dX10_isKindOrUnder_30 rfl rfl ?_
            refine v_ic_ne (t := 38) (n := 34) xB_113 dX10_isKindOrUnder_31 (by decide) rfl rfl (fun g8 => ?_) (fun g8 => ?_)
            · refine v_iconst (n := 39) xB_113 dX10_isKindOrUnder_38 ⟨by decide, by decide⟩ rfl ?_
              refine v_ireturn1 xB_113 dX10_isKindOrUnder_39 xK_113 (by decide) ?_
              first | exact o1 (by first | omega | (simp only [sA_same, sA_s, ud_s, Int.reduceEq, if_true, if_false, ite_true, ite_false, ↓reduceIte, and_true, true_and, eq_self, Int.add_zero, Int.reduceAdd]; omega) | (simp (disch := omega) only [sA_same, sA_ne, ud_eq, ud_ne, Int.add_zero, Int.reduceAdd]; omega)) | exact o2 (by first | omega | (simp only [sA_same, sA_s, ud_s, Int.reduceEq, if_true, if_false, ite_true, ite_false, ↓reduceIte, and_true, true_and, eq_self, Int.add_zero, Int.reduceAdd]; omega) | (simp (disch := omega) only [sA_same, sA_ne, ud_eq, ud_ne, Int.add_zero, Int.reduceAdd]; omega))
            · refine v_iconst (n := 35) xB_113 dX10_isKindOrUnder_34 ⟨by decide, by decide⟩ rfl ?_
              refine v_goto (t := 39) xB_113 dX10_isKindOrUnder_35 (by decide) rfl ?_
              refine v_ireturn1 xB_113 dX10_isKindOrUnder_39 xK_113 (by decide) ?_
              first | exact o1 (by first | omega | (simp only [sA_same, sA_s, ud_s, Int.reduceEq, if_true, if_false, ite_true, ite_false, ↓reduceIte, and_true, true_and, eq_self, Int.add_zero, Int.reduceAdd]; omega) | (simp (disch := omega) only [sA_same, sA_ne, ud_eq, ud_ne, Int.add_zero, Int.reduceAdd]; omega)) | exact o2 (by first | omega | (simp only [sA_same, sA_s, ud_s, Int.reduceEq, if_true, if_false, ite_true, ite_false, ↓reduceIte, and_true, true_and, eq_self, Int.add_zero, Int.reduceAdd]; omega) | (simp (disch := omega) only [sA_same, sA_ne, ud_eq, ud_ne, Int.add_zero, Int.reduceAdd]; omega))
          · refine v_gst_0 (n := 20) xB_113 dX10_isKindOrUnder_17 xO_113 gs_10_291 rfl ?_
            refine v_iload_n (n := 21) xB_113 dX10_isKindOrUnder_20 rfl rfl ?_
            refine v_iaload (n := 22) (lz := 7) xB_113 dX10_isKindOrUnder_21 (sh_ka _ _ _) rfl (by first | omega | (simp only [sA_same, sA_s, ud_s, Int.reduceEq, if_true, if_false, ite_true, ite_false, ↓reduceIte, and_true, true_and, eq_self, Int.add_zero, Int.reduceAdd]; omega) | (simp (disch := omega) only [sA_same, sA_ne, ud_eq, ud_ne, Int.add_zero, Int.reduceAdd]; omega)) rfl ?_
            (try simp only [K0, K1, K2, K3, K4, K5, K6])
            refine v_istore_n2 (n := 23) xB_113 dX10_isKindOrUnder_22 rfl rfl ?_
            refine v_iinc3 (n := 26) xB_113 dX10_isKindOrUnder_23 rfl (by first | omega | (simp only [sA_same, sA_s, ud_s, Int.reduceEq, if_true, if_false, ite_true, ite_false, ↓reduceIte, and_true, true_and, eq_self, Int.add_zero, Int.reduceAdd]; omega) | (simp (disch := omega) only [sA_same, sA_ne, ud_eq, ud_ne, Int.add_zero, Int.reduceAdd]; omega)) rfl ?_
            refine v_goto (t := 4) xB_113 dX10_isKindOrUnder_26 (by decide) rfl ?_
            refine v_iload_n (n := 5) xB_113 dX10_isKindOrUnder_4 rfl rfl ?_
            refine v_gst_0 (n := 8) xB_113 dX10_isKindOrUnder_5 xO_113 gs_10_291 rfl ?_
            refine v_alen (n := 9) (lz := 7) xB_113 dX10_isKindOrUnder_8 (sh_ka _ _ _) (by decide) rfl rfl ?_
            refine v_ic_ge_n (n := 12) xB_113 dX10_isKindOrUnder_9 (by decide) rfl (by decide) ?_
            refine v_iload_n (n := 13) xB_113 dX10_isKindOrUnder_12 rfl rfl ?_
            refine v_iload_n (n := 14) xB_113 dX10_isKindOrUnder_13 rfl rfl ?_
            refine v_ic_le (t := 29) (n := 17) xB_113 dX10_isKindOrUnder_14 (by decide) rfl rfl (fun g9 => ?_) (fun g9 => ?_)
            · refine v_iload_n (n := 30) xB_113 dX10_isKindOrUnder_29 rfl rfl ?_
              refine v_iload_n (n := 31) xB_113 dX10_isKindOrUnder_30 rfl rfl ?_
              refine v_ic_ne (t := 38) (n := 34) xB_113 dX10_isKindOrUnder_31 (by decide) rfl rfl (fun g10 => ?_) (fun g10 => ?_)
              · refine v_iconst (n := 39) xB_113 dX10_isKindOrUnder_38 ⟨by decide, by decide⟩ rfl ?_
                refine v_ireturn1 xB_113 dX10_isKindOrUnder_39 xK_113 (by decide) ?_
                first | exact o1 (by first | omega | (simp only [sA_same, sA_s, ud_s, Int.reduceEq, if_true, if_false, ite_true, ite_false, ↓reduceIte, and_true, true_and, eq_self, Int.add_zero, Int.reduceAdd]; omega) | (simp (disch := omega) only [sA_same, sA_ne, ud_eq, ud_ne, Int.add_zero, Int.reduceAdd]; omega)) | exact o2 (by first | omega | (simp only [sA_same, sA_s, ud_s, Int.reduceEq, if_true, if_false, ite_true, ite_false, ↓reduceIte, and_true, true_and, eq_self, Int.add_zero, Int.reduceAdd]; omega) | (simp (disch := omega) only [sA_same, sA_ne, ud_eq, ud_ne, Int.add_zero, Int.reduceAdd]; omega))
              · refine v_iconst (n := 35) xB_113 dX10_isKindOrUnder_34 ⟨by decide, by decide⟩ rfl ?_
                refine v_goto (t := 39) xB_113 dX10_isKindOrUnder_35 (by decide) rfl ?_
                refine v_ireturn1 xB_113 dX10_isKindOrUnder_39 xK_113 (by decide) ?_
                first | exact o1 (by first | omega | (simp only [sA_same, sA_s, ud_s, Int.reduceEq, if_true, if_false, ite_true, ite_false, ↓reduceIte, and_true, true_and, eq_self, Int.add_zero, Int.reduceAdd]; omega) | (simp (disch := omega) only [sA_same, sA_ne, ud_eq, ud_ne, Int.add_zero, Int.reduceAdd]; omega)) | exact o2 (by first | omega | (simp only [sA_same, sA_s, ud_s, Int.reduceEq, if_true, if_false, ite_true, ite_false, ↓reduceIte, and_true, true_and, eq_self, Int.add_zero, Int.reduceAdd]; omega) | (simp (disch := omega) only [sA_same, sA_ne, ud_eq, ud_ne, Int.add_zero, Int.reduceAdd]; omega))
            · refine v_gst_0 (n := 20) xB_113 dX10_isKindOrUnder_17 xO_113 gs_10_291 rfl ?_
              refine v_iload_n (n := 21) xB_113 dX10_isKindOrUnder_20 rfl rfl ?_
              refine v_iaload (n := 22) (lz := 7) xB_113 dX10_isKindOrUnder_21 (sh_ka _ _ _) rfl (by first | omega | (simp only [sA_same, sA_s, ud_s, Int.reduceEq, if_true, if_false, ite_true, ite_false, ↓reduceIte, and_true, true_and, eq_self, Int.add_zero, Int.reduceAdd]; omega) | (simp (disch := omega) only [sA_same, sA_ne, ud_eq, ud_ne, Int.add_zero, Int.reduceAdd]; omega)) rfl ?_
              (try simp only [K0, K1, K2, K3, K4, K5, K6])
              refine v_istore_n2 (n := 23) xB_113 dX10_isKindOrUnder_22 rfl rfl ?_
              refine v_iinc3 (n := 26) xB_113 dX10_isKindOrUnder_23 rfl (by first | omega | (simp only [sA_same, sA_s, ud_s, Int.reduceEq, if_true, if_false, ite_true, ite_false, ↓reduceIte, and_true, true_and, eq_self, Int.add_zero, Int.reduceAdd]; omega) | (simp (disch := omega) only [sA_same, sA_ne, ud_eq, ud_ne, Int.add_zero, Int.reduceAdd]; omega)) rfl ?_
              refine v_goto (t := 4) xB_113 dX10_isKindOrUnder_26 (by decide) rfl ?_
              refine v_iload_n (n := 5) xB_113 dX10_isKindOrUnder_4 rfl rfl ?_
              refine v_gst_0 (n := 8) xB_113 dX10_isKindOrUnder_5 xO_113 gs_10_291 rfl ?_
              refine v_alen (n := 9) (lz := 7) xB_113 dX10_isKindOrUnder_8 (sh_ka _ _ _) (by decide) rfl rfl ?_
              refine v_ic_ge_n (n := 12) xB_113 dX10_isKindOrUnder_9 (by decide) rfl (by decide) ?_
              refine v_iload_n (n := 13) xB_113 dX10_isKindOrUnder_12 rfl rfl ?_
              refine v_iload_n (n := 14) xB_113 dX10_isKindOrUnder_13 rfl rfl ?_
              refine v_ic_le (t := 29) (n := 17) xB_113 dX10_isKindOrUnder_14 (by decide) rfl rfl (fun g11 => ?_) (fun g11 => ?_)
              · refine v_iload_n (n := 30) xB_113 dX10_isKindOrUnder_29 rfl rfl ?_
                refine v_iload_n (n := 31) xB_113 dX10_isKindOrUnder_30 rfl rfl ?_
                refine v_ic_ne (t := 38) (n := 34) xB_113 dX10_isKindOrUnder_31 (by decide) rfl rfl (fun g12 => ?_) (fun g12 => ?_)
                · refine v_iconst (n := 39) xB_113 dX10_isKindOrUnder_38 ⟨by decide, by decide⟩ rfl ?_
                  refine v_ireturn1 xB_113 dX10_isKindOrUnder_39 xK_113 (by decide) ?_
                  first | exact o1 (by first | omega | (simp only [sA_same, sA_s, ud_s, Int.reduceEq, if_true, if_false, ite_true, ite_false, ↓reduceIte, and_true, true_and, eq_self, Int.add_zero, Int.reduceAdd]; omega) | (simp (disch := omega) only [sA_same, sA_ne, ud_eq, ud_ne, Int.add_zero, Int.reduceAdd]; omega)) | exact o2 (by first | omega | (simp only [sA_same, sA_s, ud_s, Int.reduceEq, if_true, if_false, ite_true, ite_false, ↓reduceIte, and_true, true_and, eq_self, Int.add_zero, Int.reduceAdd]; omega) | (simp (disch := omega) only [sA_same, sA_ne, ud_eq, ud_ne, Int.add_zero, Int.reduceAdd]; omega))
                · refine v_iconst (n := 35) xB_113 dX10_isKindOrUnder_34 ⟨by decide, by decide⟩ rfl ?_
                  refine v_goto (t := 39) xB_113 dX10_isKindOrUnder_35 (by decide) rfl ?_
                  refine v_ireturn1 xB_113 dX10_isKindOrUnder_39 xK_113 (by decide) ?_
                  first | exact o1 (by first | omega | (simp only [sA_same, sA_s, ud_s, Int.reduceEq, if_true, if_false, ite_true, ite_false, ↓reduceIte, and_true, true_and, eq_self, Int.add_zero, Int.reduceAdd]; omega) | (simp (disch := omega) only [sA_same, sA_ne, ud_eq, ud_ne, Int.add_zero, Int.reduceAdd]; omega)) | exact o2 (by first | omega | (simp only [sA_same, sA_s, ud_s, Int.reduceEq, if_true, if_false, ite_true, ite_false, ↓reduceIte, and_true, true_and, eq_self, Int.add_zero, Int.reduceAdd]; omega) | (simp (disch := omega) only [sA_same, sA_ne, ud_eq, ud_ne, Int.add_zero, Int.reduceAdd]; omega))
              · refine v_gst_0 (n := 20) xB_113 dX10_isKindOrUnder_17 xO_113 gs_10_291 rfl ?_
                refine v_iload_n (n := 21) xB_113 dX10_isKindOrUnder_20 rfl rfl ?_
                refine v_iaload (n := 22) (lz := 7) xB_113 dX10_isKindOrUnder_21 (sh_ka _ _ _) rfl (by first | omega | (simp only [sA_same, sA_s, ud_s, Int.reduceEq, if_true, if_false, ite_true, ite_false, ↓reduceIte, and_true, true_and, eq_self, Int.add_zero, Int.reduceAdd]; omega) | (simp (disch := omega) only [sA_same, sA_ne, ud_eq, ud_ne, Int.add_zero, Int.reduceAdd]; omega)) rfl ?_
                (try simp only [K0, K1, K2, K3, K4, K5, K6])
                refine v_istore_n2 (n := 23) xB_113 dX10_isKindOrUnder_22 rfl rfl ?_
                refine v_iinc3 (n := 26) xB_113 dX10_isKindOrUnder_23 rfl (by first | omega | (simp only [sA_same, sA_s, ud_s, Int.reduceEq, if_true, if_false, ite_true, ite_false, ↓reduceIte, and_true, true_and, eq_self, Int.add_zero, Int.reduceAdd]; omega) | (simp (disch := omega) only [sA_same, sA_ne, ud_eq, ud_ne, Int.add_zero, Int.reduceAdd]; omega)) rfl ?_
                refine v_goto (t := 4) xB_113 dX10_isKindOrUnder_26 (by decide) rfl ?_
                refine v_iload_n (n := 5) xB_113 dX10_isKindOrUnder_4 rfl rfl ?_
                refine v_gst_0 (n := 8) xB_113 dX10_isKindOrUnder_5 xO_113 gs_10_291 rfl ?_
                refine v_alen (n := 9) (lz := 7) xB_113 dX10_isKindOrUnder_8 (sh_ka _ _ _) (by decide) rfl rfl ?_
                refine v_ic_ge_n (n := 12) xB_113 dX10_isKindOrUnder_9 (by decide) rfl (by decide) ?_
                refine v_iload_n (n := 13) xB_113 dX10_isKindOrUnder_12 rfl rfl ?_
                refine v_iload_n (n := 14) xB_113 dX10_isKindOrUnder_13 rfl rfl ?_
                refine v_ic_le (t := 29) (n := 17) xB_113 dX10_isKindOrUnder_14 (by decide) rfl rfl (fun g13 => ?_) (fun g13 => ?_)
                · refine v_iload_n (n := 30) xB_113 dX10_isKindOrUnder_29 rfl rfl ?_
                  refine v_iload_n (n := 31) xB_113 dX10_isKindOrUnder_30 rfl rfl ?_
                  refine v_ic_ne (t := 38) (n := 34) xB_113 dX10_isKindOrUnder_31 (by decide) rfl rfl (fun g14 => ?_) (fun g14 => ?_)
                  · refine v_iconst (n := 39) xB_113 dX10_isKindOrUnder_38 ⟨by decide, by decide⟩ rfl ?_
                    refine v_ireturn1 xB_113 dX10_isKindOrUnder_39 xK_113 (by decide) ?_
                    first | exact o1 (by first | omega | (simp only [sA_same, sA_s, ud_s, Int.reduceEq, if_true, if_false, ite_true, ite_false, ↓reduceIte, and_true, true_and, eq_self, Int.add_zero, Int.reduceAdd]; omega) | (simp (disch := omega) only [sA_same, sA_ne, ud_eq, ud_ne, Int.add_zero, Int.reduceAdd]; omega)) | exact o2 (by first | omega | (simp only [sA_same, sA_s, ud_s, Int.reduceEq, if_true, if_false, ite_true, ite_false, ↓reduceIte, and_true, true_and, eq_self, Int.add_zero, Int.reduceAdd]; omega) | (simp (disch := omega) only [sA_same, sA_ne, ud_eq, ud_ne, Int.add_zero, Int.reduceAdd]; omega))
                  · refine v_iconst (n := 35) xB_113 dX10_isKindOrUnder_34 ⟨by decide, by decide⟩ rfl ?_
                    refine v_goto (t := 39) xB_113 dX10_isKindOrUnder_35 (by decide) rfl ?_
                    refine v_ireturn1 xB_113 dX10_isKindOrUnder_39 xK_113 (by decide) ?_
                    first | exact o1 (by first | omega | (simp only [sA_same, sA_s, ud_s, Int.reduceEq, if_true, if_false, ite_true, ite_false, ↓reduceIte, and_true, true_and, eq_self, Int.add_zero, Int.reduceAdd]; omega) | (simp (disch := omega) only [sA_same, sA_ne, ud_eq, ud_ne, Int.add_zero, Int.reduceAdd]; omega)) | exact o2 (by first | omega | (simp only [sA_same, sA_s, ud_s, Int.reduceEq, if_true, if_false, ite_true, ite_false, ↓reduceIte, and_true, true_and, eq_self, Int.add_zero, Int.reduceAdd]; omega) | (simp (disch := omega) only [sA_same, sA_ne, ud_eq, ud_ne, Int.add_zero, Int.reduceAdd]; omega))
                · refine v_gst_0 (n := 20) xB_113 dX10_isKindOrUnder_17 xO_113 gs_10_291 rfl ?_
                  refine v_iload_n (n := 21) xB_113 dX10_isKindOrUnder_20 rfl rfl ?_
                  refine v_iaload (n := 22) (lz := 7) xB_113 dX10_isKindOrUnder_21 (sh_ka _ _ _) rfl (by first | omega | (simp only [sA_same, sA_s, ud_s, Int.reduceEq, if_true, if_false, ite_true, ite_false, ↓reduceIte, and_true, true_and, eq_self, Int.add_zero, Int.reduceAdd]; omega) | (simp (disch := omega) only [sA_same, sA_ne, ud_eq, ud_ne, Int.add_zero, Int.reduceAdd]; omega)) rfl ?_
                  (try simp only [K0, K1, K2, K3, K4, K5, K6])
                  refine v_istore_n2 (n := 23) xB_113 dX10_isKindOrUnder_22 rfl rfl ?_
                  refine v_iinc3 (n := 26) xB_113 dX10_isKindOrUnder_23 rfl (by first | omega | (simp only [sA_same, sA_s, ud_s, Int.reduceEq, if_true, if_false, ite_true, ite_false, ↓reduceIte, and_true, true_and, eq_self, Int.add_zero, Int.reduceAdd]; omega) | (simp (disch := omega) only [sA_same, sA_ne, ud_eq, ud_ne, Int.add_zero, Int.reduceAdd]; omega)) rfl ?_
                  refine v_goto (t := 4) xB_113 dX10_isKindOrUnder_26 (by decide) rfl ?_
                  refine v_iload_n (n := 5) xB_113 dX10_isKindOrUnder_4 rfl rfl ?_
                  refine v_gst_0 (n := 8) xB_113 dX10_isKindOrUnder_5 xO_113 gs_10_291 rfl ?_
                  refine v_alen (n := 9) (lz := 7) xB_113 dX10_isKindOrUnder_8 (sh_ka _ _ _) (by decide) rfl rfl ?_
                  refine v_ic_ge_y (t := 29) xB_113 dX10_isKindOrUnder_9 (by decide) rfl (by decide) ?_
                  refine v_iload_n (n := 30) xB_113 dX10_isKindOrUnder_29 rfl rfl ?_
                  refine v_iload_n (n := 31) xB_113 dX10_isKindOrUnder_30 rfl rfl ?_
                  refine v_ic_ne (t := 38) (n := 34) xB_113 dX10_isKindOrUnder_31 (by decide) rfl rfl (fun g15 => ?_) (fun g15 => ?_)
                  · refine v_iconst (n := 39) xB_113 dX10_isKindOrUnder_38 ⟨by decide, by decide⟩ rfl ?_
                    refine v_ireturn1 xB_113 dX10_isKindOrUnder_39 xK_113 (by decide) ?_
                    first | exact o1 (by first | omega | (simp only [sA_same, sA_s, ud_s, Int.reduceEq, if_true, if_false, ite_true, ite_false, ↓reduceIte, and_true, true_and, eq_self, Int.add_zero, Int.reduceAdd]; omega) | (simp (disch := omega) only [sA_same, sA_ne, ud_eq, ud_ne, Int.add_zero, Int.reduceAdd]; omega)) | exact o2 (by first | omega | (simp only [sA_same, sA_s, ud_s, Int.reduceEq, if_true, if_false, ite_true, ite_false, ↓reduceIte, and_true, true_and, eq_self, Int.add_zero, Int.reduceAdd]; omega) | (simp (disch := omega) only [sA_same, sA_ne, ud_eq, ud_ne, Int.add_zero, Int.reduceAdd]; omega))
                  · refine v_iconst (n := 35) xB_113 dX10_isKindOrUnder_34 ⟨by decide, by decide⟩ rfl ?_
                    refine v_goto (t := 39) xB_113 dX10_isKindOrUnder_35 (by decide) rfl ?_
                    refine v_ireturn1 xB_113 dX10_isKindOrUnder_39 xK_113 (by decide) ?_
                    first | exact o1 (by first | omega | (simp only [sA_same, sA_s, ud_s, Int.reduceEq, if_true, if_false, ite_true, ite_false, ↓reduceIte, and_true, true_and, eq_self, Int.add_zero, Int.reduceAdd]; omega) | (simp (disch := omega) only [sA_same, sA_ne, ud_eq, ud_ne, Int.add_zero, Int.reduceAdd]; omega)) | exact o2 (by first | omega | (simp only [sA_same, sA_s, ud_s, Int.reduceEq, if_true, if_false, ite_true, ite_false, ↓reduceIte, and_true, true_and, eq_self, Int.add_zero, Int.reduceAdd]; omega) | (simp (disch := omega) only [sA_same, sA_ne, ud_eq, ud_ne, Int.add_zero, Int.reduceAdd]; omega))
set_option maxHeartbeats 2000000 in
theorem p_taken (m0 : PM) (L : Nat) (t k : Int) (hK0 : ∀ i : Nat, i < 7 → m0 (-2) i = kbF i) : PairI m0 L 112 208 [.inr (.inr 0), .inl t, .inl k] [.inr (.inr 81), .inl t, .inl k] := by
  intro m dy h D W hD hW
  have h0 := h
  obtain ⟨hSt, hSc, hTr, hSe, hPl, hBo, hIm, hHm, hTx, hAc, hTp, hJb, hCo⟩ := h
  have t1 := hTr.1
  have t2 := hTr.2.1
  have t4 : 0 ≤ t → t < 5 → m (17 + 2 * t) 0 = m 82 t ∧ (0 ≤ m 82 t ∧ m 82 t ≤ 6) := fun a b => ⟨(hTr.2.2.2 t a b).1, (hTr.2.2.2 t a b).2.2.2.2.1⟩
  have hKK : ∀ i : Nat, i < 7 → m (-2) i = kbF i := fun i hi => by rw [hCo.1 (-2) (by decide)]; exact hK0 i hi
  refine C_go (k := 55) (by omega) xL_112 (fun d hd => ?_)
  show V d 112 (0, ([some (.inr (.inr 0)), some (.inl t), some (.inl k), none], ([], (m, (none, (dy, L)))))) W
  refine v_iload_n (n := 1) xB_112 dX10_taken_0 rfl rfl ?_
  refine v_iconst (n := 2) xB_112 dX10_taken_1 ⟨by decide, by decide⟩ rfl ?_
  refine v_bipush (n := 4) xB_112 dX10_taken_2 ⟨by decide, by decide⟩ rfl ?_
  refine v_call_s (n := 7) xB_112 dX10_taken_4 xO_112 sp_10_69 (Or.inl rfl) iv_10_69 rfl rfl rfl rfl ?_
  refine k_isWithin (by omega)  (fun g1 => ?_) (fun g2 => ?_)
  · refine v_if_ne_y (t := 13) xB_112 dX10_taken_7 (by decide) rfl (by decide) ?_
    refine v_aload_n (n := 14) xB_112 dX10_taken_13 rfl rfl ?_
    refine v_iload_n (n := 15) xB_112 dX10_taken_14 rfl rfl ?_
    refine v_call_v (n := 18) xB_112 dX10_taken_15 xO_112 iv_10_96 rfl (sh_0 _ _ _) rfl rfl rfl ?_
    refine k_isTray (by omega) (by first | omega | (simp only [sA_same, sA_s, ud_s, Int.reduceEq, if_true, if_false, ite_true, ite_false, ↓reduceIte, and_true, true_and, eq_self, Int.add_zero, Int.reduceAdd]; omega) | (simp (disch := omega) only [sA_same, sA_ne, ud_eq, ud_ne, Int.add_zero, Int.reduceAdd]; omega)) (fun g3 => ?_) (fun g4 => ?_)
    · refine v_if_ne_y (t := 24) xB_112 dX10_taken_18 (by decide) rfl (by decide) ?_
      refine v_aload_n (n := 25) xB_112 dX10_taken_24 rfl rfl ?_
      refine v_gf_s (n := 28) (kz := 0) xB_112 dX10_taken_25 xO_112 fl_10_12 fg_10_0 (sh_0 _ _ _) rfl st_0_0 rfl ?_
      refine v_gf_s (n := 31) (kz := 1) xB_112 dX10_taken_28 xO_112 fl_10_86 fg_6_1 (sh_1 _ _ _) rfl st_1_1 rfl ?_
      refine v_iload_n (n := 32) xB_112 dX10_taken_31 rfl rfl ?_
      refine v_aald_s (n := 33) (lz := 5) xB_112 dX10_taken_32 (sh_4 _ _ _) (by decide) rfl (by first | omega | (simp only [sA_same, sA_s, ud_s, Int.reduceEq, if_true, if_false, ite_true, ite_false, ↓reduceIte, and_true, true_and, eq_self, Int.add_zero, Int.reduceAdd]; omega) | (simp (disch := omega) only [sA_same, sA_ne, ud_eq, ud_ne, Int.add_zero, Int.reduceAdd]; omega)) (st_T (by omega)) rfl ?_
      refine v_gf_i (n := 36) (kz := 0) xB_112 dX10_taken_33 xO_112 fl_10_99 fg_9_0 rfl (sh_T (by first | omega | (simp only [sA_same, sA_s, ud_s, Int.reduceEq, if_true, if_false, ite_true, ite_false, ↓reduceIte, and_true, true_and, eq_self, Int.add_zero, Int.reduceAdd]; omega) | (simp (disch := omega) only [sA_same, sA_ne, ud_eq, ud_ne, Int.add_zero, Int.reduceAdd]; omega)) _ _ _) rfl rfl ?_
      refine v_istore_n3 (n := 37) xB_112 dX10_taken_36 rfl rfl ?_
      refine v_iload_n (n := 38) xB_112 dX10_taken_37 rfl rfl ?_
      refine v_iload_n (n := 39) xB_112 dX10_taken_38 rfl rfl ?_
      refine v_call_s (n := 42) xB_112 dX10_taken_39 xO_112 sp_10_288 (Or.inl rfl) iv_10_288 rfl rfl rfl rfl ?_
      refine k_isKind (by omega) (by first | omega | (simp only [sA_same, sA_s, ud_s, Int.reduceEq, if_true, if_false, ite_true, ite_false, ↓reduceIte, and_true, true_and, eq_self, Int.add_zero, Int.reduceAdd]; omega) | (simp (disch := omega) only [sA_same, sA_ne, ud_eq, ud_ne, Int.add_zero, Int.reduceAdd]; omega)) (by first | omega | (simp only [sA_same, sA_s, ud_s, Int.reduceEq, if_true, if_false, ite_true, ite_false, ↓reduceIte, and_true, true_and, eq_self, Int.add_zero, Int.reduceAdd]; omega) | (simp (disch := omega) only [sA_same, sA_ne, ud_eq, ud_ne, Int.add_zero, Int.reduceAdd]; omega)) hKK (fun g5 => ?_) (fun g6 => ?_)
      · refine v_if_eq_n (n := 45) xB_112 dX10_taken_42 (by decide) rfl (by decide) ?_
        refine v_iload_n (n := 46) xB_112 dX10_taken_45 rfl rfl ?_
        refine v_goto (t := 51) xB_112 dX10_taken_46 (by decide) rfl ?_
        refine v_ireturn0 xB_112 dX10_taken_51 xK_112 ?_
        (try rw [(t4 (by omega) (by omega)).1])
        refine hW _ _ _ (fun D2 W2 hD2 hW2 => ?_)
        refine c_taken (by omega) (by first | omega | (simp only [sA_same, sA_s, ud_s, Int.reduceEq, if_true, if_false, ite_true, ite_false, ↓reduceIte, and_true, true_and, eq_self, Int.add_zero, Int.reduceAdd]; omega) | (simp (disch := omega) only [sA_same, sA_ne, ud_eq, ud_ne, Int.add_zero, Int.reduceAdd]; omega)) (fun gg => ?_) (fun gg => ?_) (fun gg => ?_) (fun gg => ?_)
        all_goals (try simp (disch := omega) only [sA_same, sA_ne, ud_eq, ud_ne] at gg)
        all_goals first | (exfalso; omega) | exact hW2 _ h0 | ((try simp (disch := omega) only [sA_same, sA_ne, sA_sA, sA_sr, sB_s, ud_eq, ud_ne, ud_ud, ud_sr, uB_s, Int.add_zero, Int.reduceAdd]); refine hW2 _ ?_; exact h0)
      · refine v_if_eq_y (t := 49) xB_112 dX10_taken_42 (by decide) rfl (by decide) ?_
        refine v_bipush (n := 51) xB_112 dX10_taken_49 ⟨by decide, by decide⟩ rfl ?_
        refine v_ireturn0 xB_112 dX10_taken_51 xK_112 ?_
        (try rw [(t4 (by omega) (by omega)).1])
        refine hW _ _ _ (fun D2 W2 hD2 hW2 => ?_)
        refine c_taken (by omega) (by first | omega | (simp only [sA_same, sA_s, ud_s, Int.reduceEq, if_true, if_false, ite_true, ite_false, ↓reduceIte, and_true, true_and, eq_self, Int.add_zero, Int.reduceAdd]; omega) | (simp (disch := omega) only [sA_same, sA_ne, ud_eq, ud_ne, Int.add_zero, Int.reduceAdd]; omega)) (fun gg => ?_) (fun gg => ?_) (fun gg => ?_) (fun gg => ?_)
        all_goals (try simp (disch := omega) only [sA_same, sA_ne, ud_eq, ud_ne] at gg)
        all_goals first | (exfalso; omega) | exact hW2 _ h0 | ((try simp (disch := omega) only [sA_same, sA_ne, sA_sA, sA_sr, sB_s, ud_eq, ud_ne, ud_ud, ud_sr, uB_s, Int.add_zero, Int.reduceAdd]); refine hW2 _ ?_; exact h0)
    · refine v_if_ne_n (n := 21) xB_112 dX10_taken_18 (by decide) rfl (by decide) ?_
      refine v_bipush (n := 23) xB_112 dX10_taken_21 ⟨by decide, by decide⟩ rfl ?_
      refine v_ireturn0 xB_112 dX10_taken_23 xK_112 ?_
      (try rw [(t4 (by omega) (by omega)).1])
      refine hW _ _ _ (fun D2 W2 hD2 hW2 => ?_)
      refine c_taken (by omega) (by first | omega | (simp only [sA_same, sA_s, ud_s, Int.reduceEq, if_true, if_false, ite_true, ite_false, ↓reduceIte, and_true, true_and, eq_self, Int.add_zero, Int.reduceAdd]; omega) | (simp (disch := omega) only [sA_same, sA_ne, ud_eq, ud_ne, Int.add_zero, Int.reduceAdd]; omega)) (fun gg => ?_) (fun gg => ?_) (fun gg => ?_) (fun gg => ?_)
      all_goals (try simp (disch := omega) only [sA_same, sA_ne, ud_eq, ud_ne] at gg)
      all_goals first | (exfalso; omega) | exact hW2 _ h0 | ((try simp (disch := omega) only [sA_same, sA_ne, sA_sA, sA_sr, sB_s, ud_eq, ud_ne, ud_ud, ud_sr, uB_s, Int.add_zero, Int.reduceAdd]); refine hW2 _ ?_; exact h0)
  · refine v_if_ne_n (n := 10) xB_112 dX10_taken_7 (by decide) rfl (by decide) ?_
    refine v_bipush (n := 12) xB_112 dX10_taken_10 ⟨by decide, by decide⟩ rfl ?_
    refine v_ireturn0 xB_112 dX10_taken_12 xK_112 ?_
    (try rw [(t4 (by omega) (by omega)).1])
    refine hW _ _ _ (fun D2 W2 hD2 hW2 => ?_)
    refine c_taken (by omega) (by first | omega | (simp only [sA_same, sA_s, ud_s, Int.reduceEq, if_true, if_false, ite_true, ite_false, ↓reduceIte, and_true, true_and, eq_self, Int.add_zero, Int.reduceAdd]; omega) | (simp (disch := omega) only [sA_same, sA_ne, ud_eq, ud_ne, Int.add_zero, Int.reduceAdd]; omega)) (fun gg => ?_) (fun gg => ?_) (fun gg => ?_) (fun gg => ?_)
    all_goals (try simp (disch := omega) only [sA_same, sA_ne, ud_eq, ud_ne] at gg)
    all_goals first | (exfalso; omega) | exact hW2 _ h0 | ((try simp (disch := omega) only [sA_same, sA_ne, sA_sA, sA_sr, sB_s, ud_eq, ud_ne, ud_ud, ud_sr, uB_s, Int.add_zero, Int.reduceAdd]); refine hW2 _ ?_; exact h0)
set_option maxHeartbeats 1000000 in
theorem c_shift {d : Nat} {t i o j n : Int} {m : PM} {dy : List (Nat × Nat)} {L : Nat} {Q : Option PV → PS → Prop} (hd : 3 ≤ d) (hl : 0 ≤ t → t < 6 → 0 ≤ m 126 t ∧ m 126 t ≤ 60) (hl2 : 0 ≤ o → o < 6 → 0 ≤ m 126 o ∧ m 126 o ≤ 60) (hn : -2147483648 ≤ n ∧ n < 2147483648) (o1 : (¬ ((0 ≤ t ∧ t < 6) ∧ (0 ≤ o ∧ o < 6))) → Q (some (.inl (-1))) (m, (none, (dy, L)))) (o2 : (((0 ≤ t ∧ t < 6) ∧ (0 ≤ o ∧ o < 6)) ∧ (m 125 t < 0 ∨ m 125 o < 0)) → Q (some (.inl (-11))) (m, (none, (dy, L)))) (o3 : (((0 ≤ t ∧ t < 6) ∧ (0 ≤ o ∧ o < 6)) ∧ (0 ≤ m 125 t ∧ 0 ≤ m 125 o) ∧ m 125 t ≠ m 125 o) → Q (some (.inl (-12))) (m, (none, (dy, L)))) (o4 : (((0 ≤ t ∧ t < 6) ∧ (0 ≤ o ∧ o < 6)) ∧ (0 ≤ m 125 t ∧ 0 ≤ m 125 o) ∧ m 125 t = m 125 o ∧ (n < 0 ∨ i < 0 ∨ j < 0 ∨ m 126 t - n < i ∨ m 126 o - n < j)) → Q (some (.inl (-13))) (m, (none, (dy, L)))) (o5 : ∀ f : Int → Int, (((0 ≤ t ∧ t < 6) ∧ (0 ≤ o ∧ o < 6)) ∧ (0 ≤ m 125 t ∧ 0 ≤ m 125 o) ∧ m 125 t = m 125 o ∧ ¬ (n < 0 ∨ i < 0 ∨ j < 0 ∨ m 126 t - n < i ∨ m 126 o - n < j)) → Q (some (.inl n)) (setA (setA m 127 (ivl (fun x => m 127 (60 * t + i + (x - (60 * o + j)))) (m 127) (60 * o + j) (60 * o + j + n))) 128 f, (none, (dy, L)))) : C d 215 [.inr (.inr 81), .inl t, .inl i, .inl o, .inl j, .inl n] (m, (none, (dy, L))) Q := by
  refine C_go (k := 2) hd xL_215 (fun d hd => ?_)
  show V d 215 (0, ([some (.inr (.inr 81)), some (.inl t), some (.inl i), some (.inl o), some (.inl j), some (.inl n), none], ([], (m, (none, (dy, L)))))) Q
  refine v_aload_n (n := 1) xB_215 dX11_shift_0 rfl rfl ?_
  refine v_iload_n (n := 2) xB_215 dX11_shift_1 rfl rfl ?_
  refine v_call_v (n := 5) xB_215 dX11_shift_2 xO_215 iv_11_386 rfl (sh_81 _ _ _) rfl rfl rfl ?_
  refine c_isTape (by omega)  (fun g1 => ?_) (fun g2 => ?_)
  · refine v_if_eq_n (n := 8) xB_215 dX11_shift_5 (by decide) rfl (by decide) ?_
    refine v_aload_n (n := 9) xB_215 dX11_shift_8 rfl rfl ?_
    refine v_iload_n (n := 10) xB_215 dX11_shift_9 rfl rfl ?_
    refine v_call_v (n := 13) xB_215 dX11_shift_10 xO_215 iv_11_386 rfl (sh_81 _ _ _) rfl rfl rfl ?_
    refine c_isTape (by omega)  (fun g3 => ?_) (fun g4 => ?_)
    · refine v_if_ne_y (t := 18) xB_215 dX11_shift_13 (by decide) rfl (by decide) ?_
      refine v_aload_n (n := 19) xB_215 dX11_shift_18 rfl rfl ?_
      refine v_gf_s (n := 22) (kz := 65) xB_215 dX11_shift_19 xO_215 fl_11_208 fg_11_65 (sh_81 _ _ _) rfl st_81_65 rfl ?_
      refine v_iload_n (n := 23) xB_215 dX11_shift_22 rfl rfl ?_
      refine v_iaload (n := 24) (lz := 6) xB_215 dX11_shift_23 (sh_125 _ _ _) rfl (by first | omega | (simp only [sA_same, sA_s, ud_s, Int.reduceEq, if_true, if_false, ite_true, ite_false, ↓reduceIte, and_true, true_and, eq_self, Int.add_zero, Int.reduceAdd]; omega) | (simp (disch := omega) only [sA_same, sA_ne, ud_eq, ud_ne, Int.add_zero, Int.reduceAdd]; omega)) rfl ?_
      refine v_if_lt (t := 36) (n := 27) xB_215 dX11_shift_24 (by decide) rfl rfl (fun g5 => ?_) (fun g5 => ?_)
      · refine v_bipush (n := 38) xB_215 dX11_shift_36 ⟨by decide, by decide⟩ rfl ?_
        refine v_ireturn0 xB_215 dX11_shift_38 xK_215 ?_
        first | exact o1 (by first | omega | (simp only [sA_same, sA_s, ud_s, Int.reduceEq, if_true, if_false, ite_true, ite_false, ↓reduceIte, and_true, true_and, eq_self, Int.add_zero, Int.reduceAdd]; omega) | (simp (disch := omega) only [sA_same, sA_ne, ud_eq, ud_ne, Int.add_zero, Int.reduceAdd]; omega)) | exact o2 (by first | omega | (simp only [sA_same, sA_s, ud_s, Int.reduceEq, if_true, if_false, ite_true, ite_false, ↓reduceIte, and_true, true_and, eq_self, Int.add_zero, Int.reduceAdd]; omega) | (simp (disch := omega) only [sA_same, sA_ne, ud_eq, ud_ne, Int.add_zero, Int.reduceAdd]; omega)) | exact o3 (by first | omega | (simp only [sA_same, sA_s, ud_s, Int.reduceEq, if_true, if_false, ite_true, ite_false, ↓reduceIte, and_true, true_and, eq_self, Int.add_zero, Int.reduceAdd]; omega) | (simp (disch := omega) only [sA_same, sA_ne, ud_eq, ud_ne, Int.add_zero, Int.reduceAdd]; omega)) | exact o4 (by first | omega | (simp only [sA_same, sA_s, ud_s, Int.reduceEq, if_true, if_false, ite_true, ite_false, ↓reduceIte, and_true, true_and, eq_self, Int.add_zero, Int.reduceAdd]; omega) | (simp (disch := omega) only [sA_same, sA_ne, ud_eq, ud_ne, Int.add_zero, Int.reduceAdd]; omega)) | exact o5 (by first | omega | (simp only [sA_same, sA_s, ud_s, Int.reduceEq, if_true, if_false, ite_true, ite_false, ↓reduceIte, and_true, true_and, eq_self, Int.add_zero, Int.reduceAdd]; omega) | (simp (disch := omega) only [sA_same, sA_ne, ud_eq, ud_ne, Int.add_zero, Int.reduceAdd]; omega))
      · refine v_aload_n (n := 28) xB_215 dX11_shift_27 rfl rfl ?_
        refine v_gf_s (n := 31) (kz := 65) xB_215 dX11_shift_28 xO_215 fl_11_208 fg_11_65 (sh_81 _ _ _) rfl st_81_65 rfl ?_
        refine v_iload_n (n := 32) xB_215 dX11_shift_31 rfl rfl ?_
        refine v_iaload (n := 33) (lz := 6) xB_215 dX11_shift_32 (sh_125 _ _ _) rfl (by first | omega | (simp only [sA_same, sA_s, ud_s, Int.reduceEq, if_true, if_false, ite_true, ite_false, ↓reduceIte, and_true, true_and, eq_self, Int.add_zero, Int.reduceAdd]; omega) | (simp (disch := omega) only [sA_same, sA_ne, ud_eq, ud_ne, Int.add_zero, Int.reduceAdd]; omega)) rfl ?_
        refine v_if_ge (t := 39) (n := 36) xB_215 dX11_shift_33 (by decide) rfl rfl (fun g6 => ?_) (fun g6 => ?_)
        · refine v_aload_n (n := 40) xB_215 dX11_shift_39 rfl rfl ?_
          refine v_gf_s (n := 43) (kz := 65) xB_215 dX11_shift_40 xO_215 fl_11_208 fg_11_65 (sh_81 _ _ _) rfl st_81_65 rfl ?_
          refine v_iload_n (n := 44) xB_215 dX11_shift_43 rfl rfl ?_
          refine v_iaload (n := 45) (lz := 6) xB_215 dX11_shift_44 (sh_125 _ _ _) rfl (by first | omega | (simp only [sA_same, sA_s, ud_s, Int.reduceEq, if_true, if_false, ite_true, ite_false, ↓reduceIte, and_true, true_and, eq_self, Int.add_zero, Int.reduceAdd]; omega) | (simp (disch := omega) only [sA_same, sA_ne, ud_eq, ud_ne, Int.add_zero, Int.reduceAdd]; omega)) rfl ?_
          refine v_aload_n (n := 46) xB_215 dX11_shift_45 rfl rfl ?_
          refine v_gf_s (n := 49) (kz := 65) xB_215 dX11_shift_46 xO_215 fl_11_208 fg_11_65 (sh_81 _ _ _) rfl st_81_65 rfl ?_
          refine v_iload_n (n := 50) xB_215 dX11_shift_49 rfl rfl ?_
          refine v_iaload (n := 51) (lz := 6) xB_215 dX11_shift_50 (sh_125 _ _ _) rfl (by first | omega | (simp only [sA_same, sA_s, ud_s, Int.reduceEq, if_true, if_false, ite_true, ite_false, ↓reduceIte, and_true, true_and, eq_self, Int.add_zero, Int.reduceAdd]; omega) | (simp (disch := omega) only [sA_same, sA_ne, ud_eq, ud_ne, Int.add_zero, Int.reduceAdd]; omega)) rfl ?_
          refine v_ic_eq (t := 57) (n := 54) xB_215 dX11_shift_51 (by decide) rfl rfl (fun g7 => ?_) (fun g7 => ?_)
          · refine v_iload (n := 59) xB_215 dX11_shift_57 rfl rfl ?_
            refine v_if_lt (t := 98) (n := 62) xB_215 dX11_shift_59 (by decide) rfl rfl (fun g8 => ?_) (fun g8 => ?_)
            · refine v_bipush (n := 100) xB_215 dX11_shift_98 ⟨by decide, by decide⟩ rfl ?_
              refine v_ireturn0 xB_215 dX11_shift_100 xK_215 ?_
              first | exact o1 (by first | omega | (simp only [sA_same, sA_s, ud_s, Int.reduceEq, if_true, if_false, ite_true, ite_false, ↓reduceIte, and_true, true_and, eq_self, Int.add_zero, Int.reduceAdd]; omega) | (simp (disch := omega) only [sA_same, sA_ne, ud_eq, ud_ne, Int.add_zero, Int.reduceAdd]; omega)) | exact o2 (by first | omega | (simp only [sA_same, sA_s, ud_s, Int.reduceEq, if_true, if_false, ite_true, ite_false, ↓reduceIte, and_true, true_and, eq_self, Int.add_zero, Int.reduceAdd]; omega) | (simp (disch := omega) only [sA_same, sA_ne, ud_eq, ud_ne, Int.add_zero, Int.reduceAdd]; omega)) | exact o3 (by first | omega | (simp only [sA_same, sA_s, ud_s, Int.reduceEq, if_true, if_false, ite_true, ite_false, ↓reduceIte, and_true, true_and, eq_self, Int.add_zero, Int.reduceAdd]; omega) | (simp (disch := omega) only [sA_same, sA_ne, ud_eq, ud_ne, Int.add_zero, Int.reduceAdd]; omega)) | exact o4 (by first | omega | (simp only [sA_same, sA_s, ud_s, Int.reduceEq, if_true, if_false, ite_true, ite_false, ↓reduceIte, and_true, true_and, eq_self, Int.add_zero, Int.reduceAdd]; omega) | (simp (disch := omega) only [sA_same, sA_ne, ud_eq, ud_ne, Int.add_zero, Int.reduceAdd]; omega)) | exact o5 (by first | omega | (simp only [sA_same, sA_s, ud_s, Int.reduceEq, if_true, if_false, ite_true, ite_false, ↓reduceIte, and_true, true_and, eq_self, Int.add_zero, Int.reduceAdd]; omega) | (simp (disch := omega) only [sA_same, sA_ne, ud_eq, ud_ne, Int.add_zero, Int.reduceAdd]; omega))
            · refine v_iload_n (n := 63) xB_215 dX11_shift_62 rfl rfl ?_
              refine v_if_lt (t := 98) (n := 66) xB_215 dX11_shift_63 (by decide) rfl rfl (fun g9 => ?_) (fun g9 => ?_)
              · refine v_bipush (n := 100) xB_215 dX11_shift_98 ⟨by decide, by decide⟩ rfl ?_
                refine v_ireturn0 xB_215 dX11_shift_100 xK_215 ?_
                first | exact o1 (by first | omega | (simp only [sA_same, sA_s, ud_s, Int.reduceEq, if_true, if_false, ite_true, ite_false, ↓reduceIte, and_true, true_and, eq_self, Int.add_zero, Int.reduceAdd]; omega) | (simp (disch := omega) only [sA_same, sA_ne, ud_eq, ud_ne, Int.add_zero, Int.reduceAdd]; omega)) | exact o2 (by first | omega | (simp only [sA_same, sA_s, ud_s, Int.reduceEq, if_true, if_false, ite_true, ite_false, ↓reduceIte, and_true, true_and, eq_self, Int.add_zero, Int.reduceAdd]; omega) | (simp (disch := omega) only [sA_same, sA_ne, ud_eq, ud_ne, Int.add_zero, Int.reduceAdd]; omega)) | exact o3 (by first | omega | (simp only [sA_same, sA_s, ud_s, Int.reduceEq, if_true, if_false, ite_true, ite_false, ↓reduceIte, and_true, true_and, eq_self, Int.add_zero, Int.reduceAdd]; omega) | (simp (disch := omega) only [sA_same, sA_ne, ud_eq, ud_ne, Int.add_zero, Int.reduceAdd]; omega)) | exact o4 (by first | omega | (simp only [sA_same, sA_s, ud_s, Int.reduceEq, if_true, if_false, ite_true, ite_false, ↓reduceIte, and_true, true_and, eq_self, Int.add_zero, Int.reduceAdd]; omega) | (simp (disch := omega) only [sA_same, sA_ne, ud_eq, ud_ne, Int.add_zero, Int.reduceAdd]; omega)) | exact o5 (by first | omega | (simp only [sA_same, sA_s, ud_s, Int.reduceEq, if_true, if_false, ite_true, ite_false, ↓reduceIte, and_true, true_and, eq_self, Int.add_zero, Int.reduceAdd]; omega) | (simp (disch := omega) only [sA_same, sA_ne, ud_eq, ud_ne, Int.add_zero, Int.reduceAdd]; omega))
              · refine v_iload (n := 68) xB_215 dX11_shift_66 rfl rfl ?_
                refine v_if_lt (t := 98) (n := 71) xB_215 dX11_shift_68 (by decide) rfl rfl (fun g10 => ?_) (fun g10 => ?_)
                · refine v_bipush (n := 100) xB_215 dX11_shift_98 ⟨by decide, by decide⟩ rfl ?_
                  refine v_ireturn0 xB_215 dX11_shift_100 xK_215 ?_
                  first | exact o1 (by first | omega | (simp only [sA_same, sA_s, ud_s, Int.reduceEq, if_true, if_false, ite_true, ite_false, ↓reduceIte, and_true, true_and, eq_self, Int.add_zero, Int.reduceAdd]; omega) | (simp (disch := omega) only [sA_same, sA_ne, ud_eq, ud_ne, Int.add_zero, Int.reduceAdd]; omega)) | exact o2 (by first | omega | (simp only [sA_same, sA_s, ud_s, Int.reduceEq, if_true, if_false, ite_true, ite_false, ↓reduceIte, and_true, true_and, eq_self, Int.add_zero, Int.reduceAdd]; omega) | (simp (disch := omega) only [sA_same, sA_ne, ud_eq, ud_ne, Int.add_zero, Int.reduceAdd]; omega)) | exact o3 (by first | omega | (simp only [sA_same, sA_s, ud_s, Int.reduceEq, if_true, if_false, ite_true, ite_false, ↓reduceIte, and_true, true_and, eq_self, Int.add_zero, Int.reduceAdd]; omega) | (simp (disch := omega) only [sA_same, sA_ne, ud_eq, ud_ne, Int.add_zero, Int.reduceAdd]; omega)) | exact o4 (by first | omega | (simp only [sA_same, sA_s, ud_s, Int.reduceEq, if_true, if_false, ite_true, ite_false, ↓reduceIte, and_true, true_and, eq_self, Int.add_zero, Int.reduceAdd]; omega) | (simp (disch := omega) only [sA_same, sA_ne, ud_eq, ud_ne, Int.add_zero, Int.reduceAdd]; omega)) | exact o5 (by first | omega | (simp only [sA_same, sA_s, ud_s, Int.reduceEq, if_true, if_false, ite_true, ite_false, ↓reduceIte, and_true, true_and, eq_self, Int.add_zero, Int.reduceAdd]; omega) | (simp (disch := omega) only [sA_same, sA_ne, ud_eq, ud_ne, Int.add_zero, Int.reduceAdd]; omega))
                · refine v_iload_n (n := 72) xB_215 dX11_shift_71 rfl rfl ?_
                  refine v_aload_n (n := 73) xB_215 dX11_shift_72 rfl rfl ?_
                  refine v_gf_s (n := 76) (kz := 66) xB_215 dX11_shift_73 xO_215 fl_11_211 fg_11_66 (sh_81 _ _ _) rfl st_81_66 rfl ?_
                  refine v_iload_n (n := 77) xB_215 dX11_shift_76 rfl rfl ?_
                  refine v_iaload (n := 78) (lz := 6) xB_215 dX11_shift_77 (sh_126 _ _ _) rfl (by first | omega | (simp only [sA_same, sA_s, ud_s, Int.reduceEq, if_true, if_false, ite_true, ite_false, ↓reduceIte, and_true, true_and, eq_self, Int.add_zero, Int.reduceAdd]; omega) | (simp (disch := omega) only [sA_same, sA_ne, ud_eq, ud_ne, Int.add_zero, Int.reduceAdd]; omega)) rfl ?_
                  refine v_iload (n := 80) xB_215 dX11_shift_78 rfl rfl ?_
                  refine v_isub (n := 81) xB_215 dX11_shift_80 (by first | omega | (simp only [sA_same, sA_s, ud_s, Int.reduceEq, if_true, if_false, ite_true, ite_false, ↓reduceIte, and_true, true_and, eq_self, Int.add_zero, Int.reduceAdd]; omega) | (simp (disch := omega) only [sA_same, sA_ne, ud_eq, ud_ne, Int.add_zero, Int.reduceAdd]; omega)) rfl ?_
                  refine v_ic_gt (t := 98) (n := 84) xB_215 dX11_shift_81 (by decide) rfl rfl (fun g11 => ?_) (fun g11 => ?_)
                  · refine v_bipush (n := 100) xB_215 dX11_shift_98 ⟨by decide, by decide⟩ rfl ?_
                    refine v_ireturn0 xB_215 dX11_shift_100 xK_215 ?_
                    first | exact o1 (by first | omega | (simp only [sA_same, sA_s, ud_s, Int.reduceEq, if_true, if_false, ite_true, ite_false, ↓reduceIte, and_true, true_and, eq_self, Int.add_zero, Int.reduceAdd]; omega) | (simp (disch := omega) only [sA_same, sA_ne, ud_eq, ud_ne, Int.add_zero, Int.reduceAdd]; omega)) | exact o2 (by first | omega | (simp only [sA_same, sA_s, ud_s, Int.reduceEq, if_true, if_false, ite_true, ite_false, ↓reduceIte, and_true, true_and, eq_self, Int.add_zero, Int.reduceAdd]; omega) | (simp (disch := omega) only [sA_same, sA_ne, ud_eq, ud_ne, Int.add_zero, Int.reduceAdd]; omega)) | exact o3 (by first | omega | (simp only [sA_same, sA_s, ud_s, Int.reduceEq, if_true, if_false, ite_true, ite_false, ↓reduceIte, and_true, true_and, eq_self, Int.add_zero, Int.reduceAdd]; omega) | (simp (disch := omega) only [sA_same, sA_ne, ud_eq, ud_ne, Int.add_zero, Int.reduceAdd]; omega)) | exact o4 (by first | omega | (simp only [sA_same, sA_s, ud_s, Int.reduceEq, if_true, if_false, ite_true, ite_false, ↓reduceIte, and_true, true_and, eq_self, Int.add_zero, Int.reduceAdd]; omega) | (simp (disch := omega) only [sA_same, sA_ne, ud_eq, ud_ne, Int.add_zero, Int.reduceAdd]; omega)) | exact o5 (by first | omega | (simp only [sA_same, sA_s, ud_s, Int.reduceEq, if_true, if_false, ite_true, ite_false, ↓reduceIte, and_true, true_and, eq_self, Int.add_zero, Int.reduceAdd]; omega) | (simp (disch := omega) only [sA_same, sA_ne, ud_eq, ud_ne, Int.add_zero, Int.reduceAdd]; omega))
                  · refine v_iload (n := 86) xB_215 dX11_shift_84 rfl rfl ?_
                    refine v_aload_n (n := 87) xB_215 dX11_shift_86 rfl rfl ?_
                    refine v_gf_s (n := 90) (kz := 66) xB_215 dX11_shift_87 xO_215 fl_11_211 fg_11_66 (sh_81 _ _ _) rfl st_81_66 rfl ?_
                    refine v_iload_n (n := 91) xB_215 dX11_shift_90 rfl rfl ?_
                    refine v_iaload (n := 92) (lz := 6) xB_215 dX11_shift_91 (sh_126 _ _ _) rfl (by first | omega | (simp only [sA_same, sA_s, ud_s, Int.reduceEq, if_true, if_false, ite_true, ite_false, ↓reduceIte, and_true, true_and, eq_self, Int.add_zero, Int.reduceAdd]; omega) | (simp (disch := omega) only [sA_same, sA_ne, ud_eq, ud_ne, Int.add_zero, Int.reduceAdd]; omega)) rfl ?_
                    refine v_iload (n := 94) xB_215 dX11_shift_92 rfl rfl ?_
                    refine v_isub (n := 95) xB_215 dX11_shift_94 (by first | omega | (simp only [sA_same, sA_s, ud_s, Int.reduceEq, if_true, if_false, ite_true, ite_false, ↓reduceIte, and_true, true_and, eq_self, Int.add_zero, Int.reduceAdd]; omega) | (simp (disch := omega) only [sA_same, sA_ne, ud_eq, ud_ne, Int.add_zero, Int.reduceAdd]; omega)) rfl ?_
                    refine v_ic_le (t := 101) (n := 98) xB_215 dX11_shift_95 (by decide) rfl rfl (fun g12 => ?_) (fun g12 => ?_)
                    · refine v_iconst (n := 102) xB_215 dX11_shift_101 ⟨by decide, by decide⟩ rfl ?_
                      refine v_istore6 (n := 104) xB_215 dX11_shift_102 rfl rfl ?_
                      refine lp_up (F := fun (k : Int) (m' : PM) => V d 215 (104, ([some (.inr (.inr 81)), some (.inl t), some (.inl i), some (.inl o), some (.inl j), some (.inl n), some (.inl (k))], ([], (m', (none, (dy, L)))))) Q) (E := fun (k : Int) (m' : PM) => m' = setA m 128 (ivl (fun x => m 127 (60 * t + i + x)) (m 128) 0 (k))) (a := 0) (b := n) ?_ ?_ (0) (_) (by first | omega | (simp only [sA_same, sA_s, ud_s, Int.reduceEq, if_true, if_false, ite_true, ite_false, ↓reduceIte, and_true, true_and, eq_self, Int.add_zero, Int.reduceAdd]; omega) | (simp (disch := omega) only [sA_same, sA_ne, ud_eq, ud_ne, Int.add_zero, Int.reduceAdd]; omega)) (by first | omega | (simp only [sA_same, sA_s, ud_s, Int.reduceEq, if_true, if_false, ite_true, ite_false, ↓reduceIte, and_true, true_and, eq_self, Int.add_zero, Int.reduceAdd]; omega) | (simp (disch := omega) only [sA_same, sA_ne, ud_eq, ud_ne, Int.add_zero, Int.reduceAdd]; omega)) ?_
                      · intro m' hm 
                        show V d 215 (104, ([some (.inr (.inr 81)), some (.inl t), some (.inl i), some (.inl o), some (.inl j), some (.inl n), some (.inl (n))], ([], (m', (none, (dy, L)))))) Q
                        subst hm
                        refine v_iload (n := 106) xB_215 dX11_shift_104 rfl rfl ?_
                        refine v_iload (n := 108) xB_215 dX11_shift_106 rfl rfl ?_
                        refine v_ic_ge_y (t := 138) xB_215 dX11_shift_108 (by decide) rfl (by first | omega | (simp only [sA_same, sA_s, ud_s, Int.reduceEq, if_true, if_false, ite_true, ite_false, ↓reduceIte, and_true, true_and, eq_self, Int.add_zero, Int.reduceAdd]; omega) | (simp (disch := omega) only [sA_same, sA_ne, ud_eq, ud_ne, Int.add_zero, Int.reduceAdd]; omega)) ?_
                        refine v_iconst (n := 139) xB_215 dX11_shift_138 ⟨by decide, by decide⟩ rfl ?_
                        refine v_istore6 (n := 141) xB_215 dX11_shift_139 rfl rfl ?_
                        refine lp_up (F := fun (k : Int) (m' : PM) => V d 215 (141, ([some (.inr (.inr 81)), some (.inl t), some (.inl i), some (.inl o), some (.inl j), some (.inl n), some (.inl (k))], ([], (m', (none, (dy, L)))))) Q) (E := fun (k : Int) (m' : PM) => m' = setA (setA m 127 (ivl (fun x => m 127 (60 * t + i + (x - (60 * o + j)))) (m 127) (60 * o + j) (60 * o + j + k))) 128 (ivl (fun x => m 127 (60 * t + i + x)) (m 128) 0 n)) (a := 0) (b := n) ?_ ?_ (0) (_) (by first | omega | (simp only [sA_same, sA_s, ud_s, Int.reduceEq, if_true, if_false, ite_true, ite_false, ↓reduceIte, and_true, true_and, eq_self, Int.add_zero, Int.reduceAdd]; omega) | (simp (disch := omega) only [sA_same, sA_ne, ud_eq, ud_ne, Int.add_zero, Int.reduceAdd]; omega)) (by first | omega | (simp only [sA_same, sA_s, ud_s, Int.reduceEq, if_true, if_false, ite_true, ite_false, ↓reduceIte, and_true, true_and, eq_self, Int.add_zero, Int.reduceAdd]; omega) | (simp (disch := omega) only [sA_same, sA_ne, ud_eq, ud_ne, Int.add_zero, Int.reduceAdd]; omega)) ?_
                        · intro m' hm 
                          show V d 215 (141, ([some (.inr (.inr 81)), some (.inl t), some (.inl i), some (.inl o), some (.inl j), some (.inl n), some (.inl (n))], ([], (m', (none, (dy, L)))))) Q
                          subst hm
                          refine v_iload (n := 143) xB_215 dX11_shift_141 rfl rfl ?_
                          refine v_iload (n := 145) xB_215 dX11_shift_143 rfl rfl ?_
                          refine v_ic_ge_y (t := 176) xB_215 dX11_shift_145 (by decide) rfl (by first | omega | (simp only [sA_same, sA_s, ud_s, Int.reduceEq, if_true, if_false, ite_true, ite_false, ↓reduceIte, and_true, true_and, eq_self, Int.add_zero, Int.reduceAdd]; omega) | (simp (disch := omega) only [sA_same, sA_ne, ud_eq, ud_ne, Int.add_zero, Int.reduceAdd]; omega)) ?_
                          refine v_iload (n := 178) xB_215 dX11_shift_176 rfl rfl ?_
                          refine v_ireturn0 xB_215 dX11_shift_178 xK_215 ?_
                          exact o5 _ ⟨by omega, by omega, by omega, by omega⟩
                        · intro k m' h1 h2 hm ih 
                          show V d 215 (141, ([some (.inr (.inr 81)), some (.inl t), some (.inl i), some (.inl o), some (.inl j), some (.inl n), some (.inl (k))], ([], (m', (none, (dy, L)))))) Q
                          subst hm
                          refine v_iload (n := 143) xB_215 dX11_shift_141 rfl rfl ?_
                          refine v_iload (n := 145) xB_215 dX11_shift_143 rfl rfl ?_
                          refine v_ic_ge_n (n := 148) xB_215 dX11_shift_145 (by decide) rfl (by first | omega | (simp only [sA_same, sA_s, ud_s, Int.reduceEq, if_true, if_false, ite_true, ite_false, ↓reduceIte, and_true, true_and, eq_self, Int.add_zero, Int.reduceAdd]; omega) | (simp (disch := omega) only [sA_same, sA_ne, ud_eq, ud_ne, Int.add_zero, Int.reduceAdd]; omega)) ?_
                          refine v_aload_n (n := 149) xB_215 dX11_shift_148 rfl rfl ?_
                          refine v_gf_s (n := 152) (kz := 67) xB_215 dX11_shift_149 xO_215 fl_11_214 fg_11_67 (sh_81 _ _ _) rfl st_81_67 rfl ?_
                          refine v_bipush (n := 154) xB_215 dX11_shift_152 ⟨by decide, by decide⟩ rfl ?_
                          refine v_iload_n (n := 155) xB_215 dX11_shift_154 rfl rfl ?_
                          refine v_imul (n := 156) xB_215 dX11_shift_155 (by first | omega | (simp only [sA_same, sA_s, ud_s, Int.reduceEq, if_true, if_false, ite_true, ite_false, ↓reduceIte, and_true, true_and, eq_self, Int.add_zero, Int.reduceAdd]; omega) | (simp (disch := omega) only [sA_same, sA_ne, ud_eq, ud_ne, Int.add_zero, Int.reduceAdd]; omega)) rfl ?_
                          refine v_iload (n := 158) xB_215 dX11_shift_156 rfl rfl ?_
                          refine v_iadd (n := 159) xB_215 dX11_shift_158 (by first | omega | (simp only [sA_same, sA_s, ud_s, Int.reduceEq, if_true, if_false, ite_true, ite_false, ↓reduceIte, and_true, true_and, eq_self, Int.add_zero, Int.reduceAdd]; omega) | (simp (disch := omega) only [sA_same, sA_ne, ud_eq, ud_ne, Int.add_zero, Int.reduceAdd]; omega)) rfl ?_
                          refine v_iload (n := 161) xB_215 dX11_shift_159 rfl rfl ?_
                          refine v_iadd (n := 162) xB_215 dX11_shift_161 (by first | omega | (simp only [sA_same, sA_s, ud_s, Int.reduceEq, if_true, if_false, ite_true, ite_false, ↓reduceIte, and_true, true_and, eq_self, Int.add_zero, Int.reduceAdd]; omega) | (simp (disch := omega) only [sA_same, sA_ne, ud_eq, ud_ne, Int.add_zero, Int.reduceAdd]; omega)) rfl ?_
                          refine v_aload_n (n := 163) xB_215 dX11_shift_162 rfl rfl ?_
                          refine v_gf_s (n := 166) (kz := 68) xB_215 dX11_shift_163 xO_215 fl_11_218 fg_11_68 (sh_81 _ _ _) rfl st_81_68 rfl ?_
                          refine v_iload (n := 168) xB_215 dX11_shift_166 rfl rfl ?_
                          refine v_laload (n := 169) (lz := 60) xB_215 dX11_shift_168 (sh_128 _ _ _) rfl (by first | omega | (simp only [sA_same, sA_s, ud_s, Int.reduceEq, if_true, if_false, ite_true, ite_false, ↓reduceIte, and_true, true_and, eq_self, Int.add_zero, Int.reduceAdd]; omega) | (simp (disch := omega) only [sA_same, sA_ne, ud_eq, ud_ne, Int.add_zero, Int.reduceAdd]; omega)) rfl ?_
                          refine v_lastore (n := 170) (lz := 360) xB_215 dX11_shift_169 (sh_127 _ _ _) (by decide) rfl (by first | omega | (simp only [sA_same, sA_s, ud_s, Int.reduceEq, if_true, if_false, ite_true, ite_false, ↓reduceIte, and_true, true_and, eq_self, Int.add_zero, Int.reduceAdd]; omega) | (simp (disch := omega) only [sA_same, sA_ne, ud_eq, ud_ne, Int.add_zero, Int.reduceAdd]; omega)) rfl ?_
                          (try simp (disch := omega) only [sA_same, sA_ne, sA_sA, sA_sr, sB_s, ud_eq, ud_ne, ud_ud, ud_sr, uB_s, Int.add_zero, Int.reduceAdd])
                          refine v_iinc6 (n := 173) xB_215 dX11_shift_170 rfl (by first | omega | (simp only [sA_same, sA_s, ud_s, Int.reduceEq, if_true, if_false, ite_true, ite_false, ↓reduceIte, and_true, true_and, eq_self, Int.add_zero, Int.reduceAdd]; omega) | (simp (disch := omega) only [sA_same, sA_ne, ud_eq, ud_ne, Int.add_zero, Int.reduceAdd]; omega)) rfl ?_
                          refine v_goto (t := 141) xB_215 dX11_shift_173 (by decide) rfl ?_
                          refine ih _ ?_
                          (try simp (disch := omega) only [sA_same, sA_ne, sA_sA, sA_sr, sB_s, ud_eq, ud_ne, ud_ud, ud_sr, uB_s, Int.add_zero, Int.reduceAdd])
                          rw [ivl_in (by omega) (by omega)]
                          congr 2
                          exact (by funext j'; simp only [ud_s, ivl]; (repeat' split) <;> first | rfl | omega | (exfalso; omega) | (congr 1; omega))
                        · rw [ivl_0 (lo := 60 * o + j) (by omega), sA_id]
                      · intro k m' h1 h2 hm ih 
                        show V d 215 (104, ([some (.inr (.inr 81)), some (.inl t), some (.inl i), some (.inl o), some (.inl j), some (.inl n), some (.inl (k))], ([], (m', (none, (dy, L)))))) Q
                        subst hm
                        refine v_iload (n := 106) xB_215 dX11_shift_104 rfl rfl ?_
                        refine v_iload (n := 108) xB_215 dX11_shift_106 rfl rfl ?_
                        refine v_ic_ge_n (n := 111) xB_215 dX11_shift_108 (by decide) rfl (by first | omega | (simp only [sA_same, sA_s, ud_s, Int.reduceEq, if_true, if_false, ite_true, ite_false, ↓reduceIte, and_true, true_and, eq_self, Int.add_zero, Int.reduceAdd]; omega) | (simp (disch := omega) only [sA_same, sA_ne, ud_eq, ud_ne, Int.add_zero, Int.reduceAdd]; omega)) ?_
                        refine v_aload_n (n := 112) xB_215 dX11_shift_111 rfl rfl ?_
                        refine v_gf_s (n := 115) (kz := 68) xB_215 dX11_shift_112 xO_215 fl_11_218 fg_11_68 (sh_81 _ _ _) rfl st_81_68 rfl ?_
                        refine v_iload (n := 117) xB_215 dX11_shift_115 rfl rfl ?_
                        refine v_aload_n (n := 118) xB_215 dX11_shift_117 rfl rfl ?_
                        refine v_gf_s (n := 121) (kz := 67) xB_215 dX11_shift_118 xO_215 fl_11_214 fg_11_67 (sh_81 _ _ _) rfl st_81_67 rfl ?_
                        refine v_bipush (n := 123) xB_215 dX11_shift_121 ⟨by decide, by decide⟩ rfl ?_
                        refine v_iload_n (n := 124) xB_215 dX11_shift_123 rfl rfl ?_
                        refine v_imul (n := 125) xB_215 dX11_shift_124 (by first | omega | (simp only [sA_same, sA_s, ud_s, Int.reduceEq, if_true, if_false, ite_true, ite_false, ↓reduceIte, and_true, true_and, eq_self, Int.add_zero, Int.reduceAdd]; omega) | (simp (disch := omega) only [sA_same, sA_ne, ud_eq, ud_ne, Int.add_zero, Int.reduceAdd]; omega)) rfl ?_
                        refine v_iload_n (n := 126) xB_215 dX11_shift_125 rfl rfl ?_
                        refine v_iadd (n := 127) xB_215 dX11_shift_126 (by first | omega | (simp only [sA_same, sA_s, ud_s, Int.reduceEq, if_true, if_false, ite_true, ite_false, ↓reduceIte, and_true, true_and, eq_self, Int.add_zero, Int.reduceAdd]; omega) | (simp (disch := omega) only [sA_same, sA_ne, ud_eq, ud_ne, Int.add_zero, Int.reduceAdd]; omega)) rfl ?_
                        refine v_iload (n := 129) xB_215 dX11_shift_127 rfl rfl ?_
                        refine v_iadd (n := 130) xB_215 dX11_shift_129 (by first | omega | (simp only [sA_same, sA_s, ud_s, Int.reduceEq, if_true, if_false, ite_true, ite_false, ↓reduceIte, and_true, true_and, eq_self, Int.add_zero, Int.reduceAdd]; omega) | (simp (disch := omega) only [sA_same, sA_ne, ud_eq, ud_ne, Int.add_zero, Int.reduceAdd]; omega)) rfl ?_
                        refine v_laload (n := 131) (lz := 360) xB_215 dX11_shift_130 (sh_127 _ _ _) rfl (by first | omega | (simp only [sA_same, sA_s, ud_s, Int.reduceEq, if_true, if_false, ite_true, ite_false, ↓reduceIte, and_true, true_and, eq_self, Int.add_zero, Int.reduceAdd]; omega) | (simp (disch := omega) only [sA_same, sA_ne, ud_eq, ud_ne, Int.add_zero, Int.reduceAdd]; omega)) rfl ?_
                        refine v_lastore (n := 132) (lz := 60) xB_215 dX11_shift_131 (sh_128 _ _ _) (by decide) rfl (by first | omega | (simp only [sA_same, sA_s, ud_s, Int.reduceEq, if_true, if_false, ite_true, ite_false, ↓reduceIte, and_true, true_and, eq_self, Int.add_zero, Int.reduceAdd]; omega) | (simp (disch := omega) only [sA_same, sA_ne, ud_eq, ud_ne, Int.add_zero, Int.reduceAdd]; omega)) rfl ?_
                        (try simp (disch := omega) only [sA_same, sA_ne, sA_sA, sA_sr, sB_s, ud_eq, ud_ne, ud_ud, ud_sr, uB_s, Int.add_zero, Int.reduceAdd])
                        refine v_iinc6 (n := 135) xB_215 dX11_shift_132 rfl (by first | omega | (simp only [sA_same, sA_s, ud_s, Int.reduceEq, if_true, if_false, ite_true, ite_false, ↓reduceIte, and_true, true_and, eq_self, Int.add_zero, Int.reduceAdd]; omega) | (simp (disch := omega) only [sA_same, sA_ne, ud_eq, ud_ne, Int.add_zero, Int.reduceAdd]; omega)) rfl ?_
                        refine v_goto (t := 104) xB_215 dX11_shift_135 (by decide) rfl ?_
                        refine ih _ ?_
                        (try simp (disch := omega) only [sA_same, sA_ne, sA_sA, sA_sr, sB_s, ud_eq, ud_ne, ud_ud, ud_sr, uB_s, Int.add_zero, Int.reduceAdd])
                        congr 1
                        exact (by funext j'; simp only [ud_s, ivl]; (repeat' split) <;> first | rfl | omega | (exfalso; omega) | (congr 1; omega))
                      · rw [ivl_0 (by omega), sA_id]
                    · refine v_bipush (n := 100) xB_215 dX11_shift_98 ⟨by decide, by decide⟩ rfl ?_
                      refine v_ireturn0 xB_215 dX11_shift_100 xK_215 ?_
                      first | exact o1 (by first | omega | (simp only [sA_same, sA_s, ud_s, Int.reduceEq, if_true, if_false, ite_true, ite_false, ↓reduceIte, and_true, true_and, eq_self, Int.add_zero, Int.reduceAdd]; omega) | (simp (disch := omega) only [sA_same, sA_ne, ud_eq, ud_ne, Int.add_zero, Int.reduceAdd]; omega)) | exact o2 (by first | omega | (simp only [sA_same, sA_s, ud_s, Int.reduceEq, if_true, if_false, ite_true, ite_false, ↓reduceIte, and_true, true_and, eq_self, Int.add_zero, Int.reduceAdd]; omega) | (simp (disch := omega) only [sA_same, sA_ne, ud_eq, ud_ne, Int.add_zero, Int.reduceAdd]; omega)) | exact o3 (by first | omega | (simp only [sA_same, sA_s, ud_s, Int.reduceEq, if_true, if_false, ite_true, ite_false, ↓reduceIte, and_true, true_and, eq_self, Int.add_zero, Int.reduceAdd]; omega) | (simp (disch := omega) only [sA_same, sA_ne, ud_eq, ud_ne, Int.add_zero, Int.reduceAdd]; omega)) | exact o4 (by first | omega | (simp only [sA_same, sA_s, ud_s, Int.reduceEq, if_true, if_false, ite_true, ite_false, ↓reduceIte, and_true, true_and, eq_self, Int.add_zero, Int.reduceAdd]; omega) | (simp (disch := omega) only [sA_same, sA_ne, ud_eq, ud_ne, Int.add_zero, Int.reduceAdd]; omega)) | exact o5 (by first | omega | (simp only [sA_same, sA_s, ud_s, Int.reduceEq, if_true, if_false, ite_true, ite_false, ↓reduceIte, and_true, true_and, eq_self, Int.add_zero, Int.reduceAdd]; omega) | (simp (disch := omega) only [sA_same, sA_ne, ud_eq, ud_ne, Int.add_zero, Int.reduceAdd]; omega))
          · refine v_bipush (n := 56) xB_215 dX11_shift_54 ⟨by decide, by decide⟩ rfl ?_
            refine v_ireturn0 xB_215 dX11_shift_56 xK_215 ?_
            first | exact o1 (by first | omega | (simp only [sA_same, sA_s, ud_s, Int.reduceEq, if_true, if_false, ite_true, ite_false, ↓reduceIte, and_true, true_and, eq_self, Int.add_zero, Int.reduceAdd]; omega) | (simp (disch := omega) only [sA_same, sA_ne, ud_eq, ud_ne, Int.add_zero, Int.reduceAdd]; omega)) | exact o2 (by first | omega | (simp only [sA_same, sA_s, ud_s, Int.reduceEq, if_true, if_false, ite_true, ite_false, ↓reduceIte, and_true, true_and, eq_self, Int.add_zero, Int.reduceAdd]; omega) | (simp (disch := omega) only [sA_same, sA_ne, ud_eq, ud_ne, Int.add_zero, Int.reduceAdd]; omega)) | exact o3 (by first | omega | (simp only [sA_same, sA_s, ud_s, Int.reduceEq, if_true, if_false, ite_true, ite_false, ↓reduceIte, and_true, true_and, eq_self, Int.add_zero, Int.reduceAdd]; omega) | (simp (disch := omega) only [sA_same, sA_ne, ud_eq, ud_ne, Int.add_zero, Int.reduceAdd]; omega)) | exact o4 (by first | omega | (simp only [sA_same, sA_s, ud_s, Int.reduceEq, if_true, if_false, ite_true, ite_false, ↓reduceIte, and_true, true_and, eq_self, Int.add_zero, Int.reduceAdd]; omega) | (simp (disch := omega) only [sA_same, sA_ne, ud_eq, ud_ne, Int.add_zero, Int.reduceAdd]; omega)) | exact o5 (by first | omega | (simp only [sA_same, sA_s, ud_s, Int.reduceEq, if_true, if_false, ite_true, ite_false, ↓reduceIte, and_true, true_and, eq_self, Int.add_zero, Int.reduceAdd]; omega) | (simp (disch := omega) only [sA_same, sA_ne, ud_eq, ud_ne, Int.add_zero, Int.reduceAdd]; omega))
        · refine v_bipush (n := 38) xB_215 dX11_shift_36 ⟨by decide, by decide⟩ rfl ?_
          refine v_ireturn0 xB_215 dX11_shift_38 xK_215 ?_
          first | exact o1 (by first | omega | (simp only [sA_same, sA_s, ud_s, Int.reduceEq, if_true, if_false, ite_true, ite_false, ↓reduceIte, and_true, true_and, eq_self, Int.add_zero, Int.reduceAdd]; omega) | (simp (disch := omega) only [sA_same, sA_ne, ud_eq, ud_ne, Int.add_zero, Int.reduceAdd]; omega)) | exact o2 (by first | omega | (simp only [sA_same, sA_s, ud_s, Int.reduceEq, if_true, if_false, ite_true, ite_false, ↓reduceIte, and_true, true_and, eq_self, Int.add_zero, Int.reduceAdd]; omega) | (simp (disch := omega) only [sA_same, sA_ne, ud_eq, ud_ne, Int.add_zero, Int.reduceAdd]; omega)) | exact o3 (by first | omega | (simp only [sA_same, sA_s, ud_s, Int.reduceEq, if_true, if_false, ite_true, ite_false, ↓reduceIte, and_true, true_and, eq_self, Int.add_zero, Int.reduceAdd]; omega) | (simp (disch := omega) only [sA_same, sA_ne, ud_eq, ud_ne, Int.add_zero, Int.reduceAdd]; omega)) | exact o4 (by first | omega | (simp only [sA_same, sA_s, ud_s, Int.reduceEq, if_true, if_false, ite_true, ite_false, ↓reduceIte, and_true, true_and, eq_self, Int.add_zero, Int.reduceAdd]; omega) | (simp (disch := omega) only [sA_same, sA_ne, ud_eq, ud_ne, Int.add_zero, Int.reduceAdd]; omega)) | exact o5 (by first | omega | (simp only [sA_same, sA_s, ud_s, Int.reduceEq, if_true, if_false, ite_true, ite_false, ↓reduceIte, and_true, true_and, eq_self, Int.add_zero, Int.reduceAdd]; omega) | (simp (disch := omega) only [sA_same, sA_ne, ud_eq, ud_ne, Int.add_zero, Int.reduceAdd]; omega))
    · refine v_if_ne_n (n := 16) xB_215 dX11_shift_13 (by decide) rfl (by decide) ?_
      refine v_iconst (n := 17) xB_215 dX11_shift_16 ⟨by decide, by decide⟩ rfl ?_
      refine v_ireturn0 xB_215 dX11_shift_17 xK_215 ?_
      first | exact o1 (by first | omega | (simp only [sA_same, sA_s, ud_s, Int.reduceEq, if_true, if_false, ite_true, ite_false, ↓reduceIte, and_true, true_and, eq_self, Int.add_zero, Int.reduceAdd]; omega) | (simp (disch := omega) only [sA_same, sA_ne, ud_eq, ud_ne, Int.add_zero, Int.reduceAdd]; omega)) | exact o2 (by first | omega | (simp only [sA_same, sA_s, ud_s, Int.reduceEq, if_true, if_false, ite_true, ite_false, ↓reduceIte, and_true, true_and, eq_self, Int.add_zero, Int.reduceAdd]; omega) | (simp (disch := omega) only [sA_same, sA_ne, ud_eq, ud_ne, Int.add_zero, Int.reduceAdd]; omega)) | exact o3 (by first | omega | (simp only [sA_same, sA_s, ud_s, Int.reduceEq, if_true, if_false, ite_true, ite_false, ↓reduceIte, and_true, true_and, eq_self, Int.add_zero, Int.reduceAdd]; omega) | (simp (disch := omega) only [sA_same, sA_ne, ud_eq, ud_ne, Int.add_zero, Int.reduceAdd]; omega)) | exact o4 (by first | omega | (simp only [sA_same, sA_s, ud_s, Int.reduceEq, if_true, if_false, ite_true, ite_false, ↓reduceIte, and_true, true_and, eq_self, Int.add_zero, Int.reduceAdd]; omega) | (simp (disch := omega) only [sA_same, sA_ne, ud_eq, ud_ne, Int.add_zero, Int.reduceAdd]; omega)) | exact o5 (by first | omega | (simp only [sA_same, sA_s, ud_s, Int.reduceEq, if_true, if_false, ite_true, ite_false, ↓reduceIte, and_true, true_and, eq_self, Int.add_zero, Int.reduceAdd]; omega) | (simp (disch := omega) only [sA_same, sA_ne, ud_eq, ud_ne, Int.add_zero, Int.reduceAdd]; omega))
  · refine v_if_eq_y (t := 16) xB_215 dX11_shift_5 (by decide) rfl (by decide) ?_
    refine v_iconst (n := 17) xB_215 dX11_shift_16 ⟨by decide, by decide⟩ rfl ?_
    refine v_ireturn0 xB_215 dX11_shift_17 xK_215 ?_
    first | exact o1 (by first | omega | (simp only [sA_same, sA_s, ud_s, Int.reduceEq, if_true, if_false, ite_true, ite_false, ↓reduceIte, and_true, true_and, eq_self, Int.add_zero, Int.reduceAdd]; omega) | (simp (disch := omega) only [sA_same, sA_ne, ud_eq, ud_ne, Int.add_zero, Int.reduceAdd]; omega)) | exact o2 (by first | omega | (simp only [sA_same, sA_s, ud_s, Int.reduceEq, if_true, if_false, ite_true, ite_false, ↓reduceIte, and_true, true_and, eq_self, Int.add_zero, Int.reduceAdd]; omega) | (simp (disch := omega) only [sA_same, sA_ne, ud_eq, ud_ne, Int.add_zero, Int.reduceAdd]; omega)) | exact o3 (by first | omega | (simp only [sA_same, sA_s, ud_s, Int.reduceEq, if_true, if_false, ite_true, ite_false, ↓reduceIte, and_true, true_and, eq_self, Int.add_zero, Int.reduceAdd]; omega) | (simp (disch := omega) only [sA_same, sA_ne, ud_eq, ud_ne, Int.add_zero, Int.reduceAdd]; omega)) | exact o4 (by first | omega | (simp only [sA_same, sA_s, ud_s, Int.reduceEq, if_true, if_false, ite_true, ite_false, ↓reduceIte, and_true, true_and, eq_self, Int.add_zero, Int.reduceAdd]; omega) | (simp (disch := omega) only [sA_same, sA_ne, ud_eq, ud_ne, Int.add_zero, Int.reduceAdd]; omega)) | exact o5 (by first | omega | (simp only [sA_same, sA_s, ud_s, Int.reduceEq, if_true, if_false, ite_true, ite_false, ↓reduceIte, and_true, true_and, eq_self, Int.add_zero, Int.reduceAdd]; omega) | (simp (disch := omega) only [sA_same, sA_ne, ud_eq, ud_ne, Int.add_zero, Int.reduceAdd]; omega))
