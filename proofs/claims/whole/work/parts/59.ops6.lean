/-! Jobs told of, kinds, moves of items: the class against the reference. -/
theorem st_59 {j : Int} (h : 0 ≤ j ∧ j < 6) : stat 59 j = none := by
  rcases c6_of h with rfl | rfl | rfl | rfl | rfl | rfl <;> decide +kernel
set_option maxHeartbeats 2000000 in
theorem p_jobs (m0 : PM) (L : Nat) (j w : Int)  : PairI m0 L 83 146 [.inr (.inr 0), .inl j, .inl w] [.inr (.inr 81), .inl j, .inl w] := by
  intro m dy h D W hD hW
  have h0 := h
  obtain ⟨hSt, hSc, hTr, hSe, hPl, hBo, hIm, hHm, hTx, hAc, hTp, hJb, hCo⟩ := h
  have j1 := hJb.1
  have j2 := hJb.2.1
  have hC : ∃ CL, 0 ≤ j → j < m 81 5 → JC m dy (m 59 j) CL ∧ JR m j CL := by
    by_cases hj : 0 ≤ j ∧ j < m 81 5
    · obtain ⟨CL, h1⟩ := hJb.2.2.2.2 j hj.1 hj.2
      exact ⟨CL, fun _ _ => h1⟩
    · exact ⟨[], fun a b => absurd ⟨a, b⟩ hj⟩
  obtain ⟨CL, hCL⟩ := hC
  refine C_go (k := 55) (by omega) xL_83 (fun d hd => ?_)
  show V d 83 (0, ([some (.inr (.inr 0)), some (.inl j), some (.inl w)], ([], (m, (none, (dy, L)))))) W
  refine v_aload_n (n := 1) xB_83 dX10_jobs_0 rfl rfl ?_
  refine v_iload_n (n := 2) xB_83 dX10_jobs_1 rfl rfl ?_
  refine v_call_v (n := 5) xB_83 dX10_jobs_2 xO_83 iv_10_162 rfl (sh_0 _ _ _) rfl rfl rfl ?_
  refine k_isJob (by omega) (by rw [j2]; exact j1) (fun g1 => ?_) (fun g2 => ?_)
  · refine v_if_eq_n (n := 8) xB_83 dX10_jobs_5 (by decide) rfl (by decide) ?_
    refine v_iload_n (n := 9) xB_83 dX10_jobs_8 rfl rfl ?_
    refine v_call_s (n := 12) xB_83 dX10_jobs_9 xO_83 sp_10_82 (Or.inl rfl) iv_10_82 rfl rfl rfl rfl ?_
    refine k_isEither (by omega)  (fun g3 => ?_) (fun g4 => ?_)
    · refine v_if_ne_y (t := 17) xB_83 dX10_jobs_12 (by decide) rfl (by decide) ?_
      refine v_iload_n (n := 18) xB_83 dX10_jobs_17 rfl rfl ?_
      refine v_if_ne (t := 33) (n := 21) xB_83 dX10_jobs_18 (by decide) rfl rfl (fun g5 => ?_) (fun g5 => ?_)
      · refine v_aload_n (n := 34) xB_83 dX10_jobs_33 rfl rfl ?_
        refine v_gf_s (n := 37) (kz := 4) xB_83 dX10_jobs_34 xO_83 fl_10_30 fg_10_4 (sh_0 _ _ _) rfl st_0_4 rfl ?_
        refine v_iload_n (n := 38) xB_83 dX10_jobs_37 rfl rfl ?_
        refine v_aald_d (n := 39) (lz := 6) xB_83 dX10_jobs_38 (sh_59 _ _ _) (by decide) rfl (by first | omega | (simp only [sA_same, sA_s, ud_s, Int.reduceEq, if_true, if_false, ite_true, ite_false, ↓reduceIte, and_true, true_and, eq_self, Int.add_zero, Int.reduceAdd]; omega) | (simp (disch := omega) only [sA_same, sA_ne, ud_eq, ud_ne, Int.add_zero, Int.reduceAdd]; omega)) (st_59 (by omega)) rfl ?_
        refine v_gf_i (n := 42) (kz := 1) xB_83 dX10_jobs_39 xO_83 fl_10_168 fg_2_1 rfl (sh_dyn' (hCL (by omega) (by omega)).1.1.1 (hCL (by omega) (by omega)).1.1.2.1 _ _) rfl rfl ?_
        refine v_ireturn0 xB_83 dX10_jobs_42 xK_83 ?_
        first | rw [(hCL (by omega) (by omega)).1.1.2.2.1] | rw [(hCL (by omega) (by omega)).1.1.2.2.2] | skip
        refine hW _ _ _ (fun D2 W2 hD2 hW2 => ?_)
        refine c_jobs (CL := CL) (by omega) (by first | omega | (simp only [sA_same, sA_s, ud_s, Int.reduceEq, if_true, if_false, ite_true, ite_false, ↓reduceIte, and_true, true_and, eq_self, Int.add_zero, Int.reduceAdd]; omega) | (simp (disch := omega) only [sA_same, sA_ne, ud_eq, ud_ne, Int.add_zero, Int.reduceAdd]; omega)) (fun a b => (hCL a b).2) (fun gg => ?_) (fun gg => ?_) (fun gg => ?_)
        all_goals (try simp (disch := omega) only [sA_same, sA_ne, ud_eq, ud_ne] at gg)
        all_goals first | (exfalso; omega) | exact hW2 _ h0 | ((try simp (disch := omega) only [sA_same, sA_ne, sA_sA, sA_sr, sB_s, ud_eq, ud_ne, ud_ud, ud_sr, uB_s, Int.add_zero, Int.reduceAdd]); refine hW2 _ ?_; exact h0)
      · refine v_aload_n (n := 22) xB_83 dX10_jobs_21 rfl rfl ?_
        refine v_gf_s (n := 25) (kz := 4) xB_83 dX10_jobs_22 xO_83 fl_10_30 fg_10_4 (sh_0 _ _ _) rfl st_0_4 rfl ?_
        refine v_iload_n (n := 26) xB_83 dX10_jobs_25 rfl rfl ?_
        refine v_aald_d (n := 27) (lz := 6) xB_83 dX10_jobs_26 (sh_59 _ _ _) (by decide) rfl (by first | omega | (simp only [sA_same, sA_s, ud_s, Int.reduceEq, if_true, if_false, ite_true, ite_false, ↓reduceIte, and_true, true_and, eq_self, Int.add_zero, Int.reduceAdd]; omega) | (simp (disch := omega) only [sA_same, sA_ne, ud_eq, ud_ne, Int.add_zero, Int.reduceAdd]; omega)) (st_59 (by omega)) rfl ?_
        refine v_gf_i (n := 30) (kz := 0) xB_83 dX10_jobs_27 xO_83 fl_10_165 fg_2_0 rfl (sh_dyn' (hCL (by omega) (by omega)).1.1.1 (hCL (by omega) (by omega)).1.1.2.1 _ _) rfl rfl ?_
        refine v_goto (t := 42) xB_83 dX10_jobs_30 (by decide) rfl ?_
        refine v_ireturn0 xB_83 dX10_jobs_42 xK_83 ?_
        first | rw [(hCL (by omega) (by omega)).1.1.2.2.1] | rw [(hCL (by omega) (by omega)).1.1.2.2.2] | skip
        refine hW _ _ _ (fun D2 W2 hD2 hW2 => ?_)
        refine c_jobs (CL := CL) (by omega) (by first | omega | (simp only [sA_same, sA_s, ud_s, Int.reduceEq, if_true, if_false, ite_true, ite_false, ↓reduceIte, and_true, true_and, eq_self, Int.add_zero, Int.reduceAdd]; omega) | (simp (disch := omega) only [sA_same, sA_ne, ud_eq, ud_ne, Int.add_zero, Int.reduceAdd]; omega)) (fun a b => (hCL a b).2) (fun gg => ?_) (fun gg => ?_) (fun gg => ?_)
        all_goals (try simp (disch := omega) only [sA_same, sA_ne, ud_eq, ud_ne] at gg)
        all_goals first | (exfalso; omega) | exact hW2 _ h0 | ((try simp (disch := omega) only [sA_same, sA_ne, sA_sA, sA_sr, sB_s, ud_eq, ud_ne, ud_ud, ud_sr, uB_s, Int.add_zero, Int.reduceAdd]); refine hW2 _ ?_; exact h0)
    · refine v_if_ne_n (n := 15) xB_83 dX10_jobs_12 (by decide) rfl (by decide) ?_
      refine v_iconst (n := 16) xB_83 dX10_jobs_15 ⟨by decide, by decide⟩ rfl ?_
      refine v_ireturn0 xB_83 dX10_jobs_16 xK_83 ?_
      first | rw [(hCL (by omega) (by omega)).1.1.2.2.1] | rw [(hCL (by omega) (by omega)).1.1.2.2.2] | skip
      refine hW _ _ _ (fun D2 W2 hD2 hW2 => ?_)
      refine c_jobs (CL := CL) (by omega) (by first | omega | (simp only [sA_same, sA_s, ud_s, Int.reduceEq, if_true, if_false, ite_true, ite_false, ↓reduceIte, and_true, true_and, eq_self, Int.add_zero, Int.reduceAdd]; omega) | (simp (disch := omega) only [sA_same, sA_ne, ud_eq, ud_ne, Int.add_zero, Int.reduceAdd]; omega)) (fun a b => (hCL a b).2) (fun gg => ?_) (fun gg => ?_) (fun gg => ?_)
      all_goals (try simp (disch := omega) only [sA_same, sA_ne, ud_eq, ud_ne] at gg)
      all_goals first | (exfalso; omega) | exact hW2 _ h0 | ((try simp (disch := omega) only [sA_same, sA_ne, sA_sA, sA_sr, sB_s, ud_eq, ud_ne, ud_ud, ud_sr, uB_s, Int.add_zero, Int.reduceAdd]); refine hW2 _ ?_; exact h0)
  · refine v_if_eq_y (t := 15) xB_83 dX10_jobs_5 (by decide) rfl (by decide) ?_
    refine v_iconst (n := 16) xB_83 dX10_jobs_15 ⟨by decide, by decide⟩ rfl ?_
    refine v_ireturn0 xB_83 dX10_jobs_16 xK_83 ?_
    first | rw [(hCL (by omega) (by omega)).1.1.2.2.1] | rw [(hCL (by omega) (by omega)).1.1.2.2.2] | skip
    refine hW _ _ _ (fun D2 W2 hD2 hW2 => ?_)
    refine c_jobs (CL := CL) (by omega) (by first | omega | (simp only [sA_same, sA_s, ud_s, Int.reduceEq, if_true, if_false, ite_true, ite_false, ↓reduceIte, and_true, true_and, eq_self, Int.add_zero, Int.reduceAdd]; omega) | (simp (disch := omega) only [sA_same, sA_ne, ud_eq, ud_ne, Int.add_zero, Int.reduceAdd]; omega)) (fun a b => (hCL a b).2) (fun gg => ?_) (fun gg => ?_) (fun gg => ?_)
    all_goals (try simp (disch := omega) only [sA_same, sA_ne, ud_eq, ud_ne] at gg)
    all_goals first | (exfalso; omega) | exact hW2 _ h0 | ((try simp (disch := omega) only [sA_same, sA_ne, sA_sA, sA_sr, sB_s, ud_eq, ud_ne, ud_ud, ud_sr, uB_s, Int.add_zero, Int.reduceAdd]); refine hW2 _ ?_; exact h0)
def kbF (i : Int) : Int := if i = 0 then -1 else if i ≤ 3 then 0 else i - 3
theorem sh_ka (m : PM) (d : List (Nat × Nat)) (L : Nat) : shp (m, (none, (d, L))) (-2) = (1, 7) := Eq.trans rfl rfl
set_option maxHeartbeats 1000000 in
theorem k_isKind {d : Nat} {x k : Int} {m : PM} {dy : List (Nat × Nat)} {L : Nat} {Q : Option PV → PS → Prop} (hd : 1 ≤ d) (hx : 0 ≤ x ∧ x ≤ 6) (hk : 0 ≤ k ∧ k ≤ 6) (hK : ∀ i : Nat, m (-2) i = kbF i) (o1 : ((k = 0 ∨ x = k ∨ (k = 1 ∧ x = 4) ∨ (k = 2 ∧ x = 5) ∨ (k = 3 ∧ x = 6))) → Q (some (.inl 1)) (m, (none, (dy, L)))) (o2 : (¬ (k = 0 ∨ x = k ∨ (k = 1 ∧ x = 4) ∨ (k = 2 ∧ x = 5) ∨ (k = 3 ∧ x = 6))) → Q (some (.inl 0)) (m, (none, (dy, L)))) : C d 113 [.inl x, .inl k] (m, (none, (dy, L))) Q := by
  refine C_go (k := 0) hd xL_113 (fun d hd => ?_)
  show V d 113 (0, ([some (.inl x), some (.inl k), none, none], ([], (m, (none, (dy, L)))))) Q
  have K0 : m (-2) 0 = -1 := by have := hK 0; rw [show ((0 : Nat) : Int) = 0 from rfl] at this; rw [this]; decide
  have K1 : m (-2) 1 = 0 := by have := hK 1; rw [show ((1 : Nat) : Int) = 1 from rfl] at this; rw [this]; decide
  have K2 : m (-2) 2 = 0 := by have := hK 2; rw [show ((2 : Nat) : Int) = 2 from rfl] at this; rw [this]; decide
  have K3 : m (-2) 3 = 0 := by have := hK 3; rw [show ((3 : Nat) : Int) = 3 from rfl] at this; rw [this]; decide
  have K4 : m (-2) 4 = 1 := by have := hK 4; rw [show ((4 : Nat) : Int) = 4 from rfl] at this; rw [this]; decide
  have K5 : m (-2) 5 = 2 := by have := hK 5; rw [show ((5 : Nat) : Int) = 5 from rfl] at this; rw [this]; decide
  have K6 : m (-2) 6 = 3 := by have := hK 6; rw [show ((6 : Nat) : Int) = 6 from rfl] at this; rw [this]; decide
  rcases (by omega : x = 0 ∨ x = 1 ∨ x = 2 ∨ x = 3 ∨ x = 4 ∨ x = 5 ∨ x = 6) with hx | hx | hx | hx | hx | hx | hx
  · subst hx
    refine v_iload_n (n := 1) xB_113 dX10_isKindOrUnder_0 rfl rfl ?_
    refine v_istore_n2 (n := 2) xB_113 dX10_isKindOrUnder_1 rfl rfl ?_
    refine v_iconst (n := 3) xB_113 dX10_isKindOrUnder_2 ⟨by decide, by decide⟩ rfl ?_
    refine v_istore_n3 (n := 4) xB_113 dX10_isKindOrUnder_3 rfl rfl ?_
    refine v_iload_n (n := 5) xB_113 dX10_isKindOrUnder_4 rfl rfl ?_
    refine v_gst_0 (n := 8) xB_113 dX10_isKindOrUnder_5 xO_113 gs_10_291 rfl ?_
    refine v_alen (n := 9) (lz := 7) xB_113 dX10_isKindOrUnder_8 (sh_ka _ _ _) (by decide) rfl rfl ?_
    refine v_ic_ge_n (n := 12) xB_113 dX10_isKindOrUnder_9 (by decide) rfl (by decide) ?_
    refine v_iload_n (n := 13) xB_113 dX10_isKindOrUnder_12 rfl rfl ?_
    refine v_iload_n (n := 14) xB_113 dX10_isKindOrUnder_13 rfl rfl ?_
    refine v_ic_le (t := 29) (n := 17) xB_113 dX10_isKindOrUnder_14 (by decide) rfl rfl (fun g1 => ?_) (fun g1 => ?_)
    · refine v_iload_n (n := 30) xB_113 dX10_isKindOrUnder_29 rfl rfl ?_
      refine v_iload_n (n := 31) xB_113 dX10_isKindOrUnder_30 rfl rfl ?_
      refine v_ic_ne (t := 38) (n := 34) xB_113 dX10_isKindOrUnder_31 (by decide) rfl rfl (fun g2 => ?_) (fun g2 => ?_)
      · refine v_iconst (n := 39) xB_113 dX10_isKindOrUnder_38 ⟨by decide, by decide⟩ rfl ?_
        refine v_ireturn1 xB_113 dX10_isKindOrUnder_39 xK_113 (by decide) ?_
        first | exact o1 (by first | omega | (simp only [sA_same, sA_s, ud_s, Int.reduceEq, if_true, if_false, ite_true, ite_false, ↓reduceIte, and_true, true_and, eq_self, Int.add_zero, Int.reduceAdd]; omega) | (simp (disch := omega) only [sA_same, sA_ne, ud_eq, ud_ne, Int.add_zero, Int.reduceAdd]; omega)) | exact o2 (by first | omega | (simp only [sA_same, sA_s, ud_s, Int.reduceEq, if_true, if_false, ite_true, ite_false, ↓reduceIte, and_true, true_and, eq_self, Int.add_zero, Int.reduceAdd]; omega) | (simp (disch := omega) only [sA_same, sA_ne, ud_eq, ud_ne, Int.add_zero, Int.reduceAdd]; omega))
      · refine v_iconst (n := 35) xB_113 dX10_isKindOrUnder_34 ⟨by decide, by decide⟩ rfl ?_
        refine v_goto (t := 39) xB_113 dX10_isKindOrUnder_35 (by decide) rfl ?_
        refine v_ireturn1 xB_113 dX10_isKindOrUnder_39 xK_113 (by decide) ?_
        first | exact o1 (by first | omega | (simp only [sA_same, sA_s, ud_s, Int.reduceEq, if_true, if_false, ite_true, ite_false, ↓reduceIte, and_true, true_and, eq_self, Int.add_zero, Int.reduceAdd]; omega) | (simp (disch := omega) only [sA_same, sA_ne, ud_eq, ud_ne, Int.add_zero, Int.reduceAdd]; omega)) | exact o2 (by first | omega | (simp only [sA_same, sA_s, ud_s, Int.reduceEq, if_true, if_false, ite_true, ite_false, ↓reduceIte, and_true, true_and, eq_self, Int.add_zero, Int.reduceAdd]; omega) | (simp (disch := omega) only [sA_same, sA_ne, ud_eq, ud_ne, Int.add_zero, Int.reduceAdd]; omega))
    · refine v_gst_0 (n := 20) xB_113 dX10_isKindOrUnder_17 xO_113 gs_10_291 rfl ?_
      refine v_iload_n (n := 21) xB_113 dX10_isKindOrUnder_20 rfl rfl ?_
      refine v_iaload (n := 22) (lz := 7) xB_113 dX10_isKindOrUnder_21 (sh_ka _ _ _) rfl (by first | omega | (simp only [sA_same, sA_s, ud_s, Int.reduceEq, if_true, if_false, ite_true, ite_false, ↓reduceIte, and_true, true_and, eq_self, Int.add_zero, Int.reduceAdd]; omega) | (simp (disch := omega) only [sA_same, sA_ne, ud_eq, ud_ne, Int.add_zero, Int.reduceAdd]; omega)) rfl ?_
      (try simp only [K0, K1, K2, K3, K4, K5, K6])
      refine v_istore_n2 (n := 23) xB_113 dX10_isKindOrUnder_22 rfl rfl ?_
      refine v_iinc3 (n := 26) xB_113 dX10_isKindOrUnder_23 rfl (by first | omega | (simp only [sA_same, sA_s, ud_s, Int.reduceEq, if_true, if_false, ite_true, ite_false, ↓reduceIte, and_true, true_and, eq_self, Int.add_zero, Int.reduceAdd]; omega) | (simp (disch := omega) only [sA_same, sA_ne, ud_eq, ud_ne, Int.add_zero, Int.reduceAdd]; omega)) rfl ?_
      refine v_goto (t := 4) xB_113 dX10_isKindOrUnder_26 (by decide) rfl ?_
      refine v_iload_n (n := 5) xB_113 dX10_isKindOrUnder_4 rfl rfl ?_
      refine v_gst_0 (n := 8) xB_113 dX10_isKindOrUnder_5 xO_113 gs_10_291 rfl ?_
      refine v_alen (n := 9) (lz := 7) xB_113 dX10_isKindOrUnder_8 (sh_ka _ _ _) (by decide) rfl rfl ?_
      refine v_ic_ge_n (n := 12) xB_113 dX10_isKindOrUnder_9 (by decide) rfl (by decide) ?_
      refine v_iload_n (n := 13) xB_113 dX10_isKindOrUnder_12 rfl rfl ?_
      refine v_iload_n (n := 14) xB_113 dX10_isKindOrUnder_13 rfl rfl ?_
      refine v_ic_le (t := 29) (n := 17) xB_113 dX10_isKindOrUnder_14 (by decide) rfl rfl (fun g3 => ?_) (fun g3 => ?_)
      · refine v_iload_n (n := 30) xB_113 dX10_isKindOrUnder_29 rfl rfl ?_
        refine v_iload_n (n := 31) xB_113 dX10_isKindOrUnder_30 rfl rfl ?_
        refine v_ic_ne (t := 38) (n := 34) xB_113 dX10_isKindOrUnder_31 (by decide) rfl rfl (fun g4 => ?_) (fun g4 => ?_)
        · refine v_iconst (n := 39) xB_113 dX10_isKindOrUnder_38 ⟨by decide, by decide⟩ rfl ?_
          refine v_ireturn1 xB_113 dX10_isKindOrUnder_39 xK_113 (by decide) ?_
          first | exact o1 (by first | omega | (simp only [sA_same, sA_s, ud_s, Int.reduceEq, if_true, if_false, ite_true, ite_false, ↓reduceIte, and_true, true_and, eq_self, Int.add_zero, Int.reduceAdd]; omega) | (simp (disch := omega) only [sA_same, sA_ne, ud_eq, ud_ne, Int.add_zero, Int.reduceAdd]; omega)) | exact o2 (by first | omega | (simp only [sA_same, sA_s, ud_s, Int.reduceEq, if_true, if_false, ite_true, ite_false, ↓reduceIte, and_true, true_and, eq_self, Int.add_zero, Int.reduceAdd]; omega) | (simp (disch := omega) only [sA_same, sA_ne, ud_eq, ud_ne, Int.add_zero, Int.reduceAdd]; omega))
        · refine v_iconst (n := 35) xB_113 dX10_isKindOrUnder_34 ⟨by decide, by decide⟩ rfl ?_
          refine v_goto (t := 39) xB_113 dX10_isKindOrUnder_35 (by decide) rfl ?_
          refine v_ireturn1 xB_113 dX10_isKindOrUnder_39 xK_113 (by decide) ?_
          first | exact o1 (by first | omega | (simp only [sA_same, sA_s, ud_s, Int.reduceEq, if_true, if_false, ite_true, ite_false, ↓reduceIte, and_true, true_and, eq_self, Int.add_zero, Int.reduceAdd]; omega) | (simp (disch := omega) only [sA_same, sA_ne, ud_eq, ud_ne, Int.add_zero, Int.reduceAdd]; omega)) | exact o2 (by first | omega | (simp only [sA_same, sA_s, ud_s, Int.reduceEq, if_true, if_false, ite_true, ite_false, ↓reduceIte, and_true, true_and, eq_self, Int.add_zero, Int.reduceAdd]; omega) | (simp (disch := omega) only [sA_same, sA_ne, ud_eq, ud_ne, Int.add_zero, Int.reduceAdd]; omega))
      · refine v_gst_0 (n := 20) xB_113 dX10_isKindOrUnder_17 xO_113 gs_10_291 rfl ?_
        refine v_iload_n (n := 21) xB_113 dX10_isKindOrUnder_20 rfl rfl ?_
        refine v_iaload (n := 22) (lz := 7) xB_113 dX10_isKindOrUnder_21 (sh_ka _ _ _) rfl (by first | omega | (simp only [sA_same, sA_s, ud_s, Int.reduceEq, if_true, if_false, ite_true, ite_false, ↓reduceIte, and_true, true_and, eq_self, Int.add_zero, Int.reduceAdd]; omega) | (simp (disch := omega) only [sA_same, sA_ne, ud_eq, ud_ne, Int.add_zero, Int.reduceAdd]; omega)) rfl ?_
        (try simp only [K0, K1, K2, K3, K4, K5, K6])
        refine v_istore_n2 (n := 23) xB_113 dX10_isKindOrUnder_22 rfl rfl ?_
        refine v_iinc3 (n := 26) xB_113 dX10_isKindOrUnder_23 rfl (by first | omega | (simp only [sA_same, sA_s, ud_s, Int.reduceEq, if_true, if_false, ite_true, ite_false, ↓reduceIte, and_true, true_and, eq_self, Int.add_zero, Int.reduceAdd]; omega) | (simp (disch := omega) only [sA_same, sA_ne, ud_eq, ud_ne, Int.add_zero, Int.reduceAdd]; omega)) rfl ?_
        refine v_goto (t := 4) xB_113 dX10_isKindOrUnder_26 (by decide) rfl ?_
        refine v_iload_n (n := 5) xB_113 dX10_isKindOrUnder_4 rfl rfl ?_
        refine v_gst_0 (n := 8) xB_113 dX10_isKindOrUnder_5 xO_113 gs_10_291 rfl ?_
        refine v_alen (n := 9) (lz := 7) xB_113 dX10_isKindOrUnder_8 (sh_ka _ _ _) (by decide) rfl rfl ?_
        refine v_ic_ge_n (n := 12) xB_113 dX10_isKindOrUnder_9 (by decide) rfl (by decide) ?_
        refine v_iload_n (n := 13) xB_113 dX10_isKindOrUnder_12 rfl rfl ?_
        refine v_iload_n (n := 14) xB_113 dX10_isKindOrUnder_13 rfl rfl ?_
        refine v_ic_le (t := 29) (n := 17) xB_113 dX10_isKindOrUnder_14 (by decide) rfl rfl (fun g5 => ?_) (fun g5 => ?_)
        · refine v_iload_n (n := 30) xB_113 dX10_isKindOrUnder_29 rfl rfl ?_
          refine v_iload_n (n := 31) xB_113 dX10_isKindOrUnder_30 rfl rfl ?_
          refine v_ic_ne (t := 38) (n := 34) xB_113 dX10_isKindOrUnder_31 (by decide) rfl rfl (fun g6 => ?_) (fun g6 => ?_)
          · refine v_iconst (n := 39) xB_113 dX10_isKindOrUnder_38 ⟨by decide, by decide⟩ rfl ?_
            refine v_ireturn1 xB_113 dX10_isKindOrUnder_39 xK_113 (by decide) ?_
            first | exact o1 (by first | omega | (simp only [sA_same, sA_s, ud_s, Int.reduceEq, if_true, if_false, ite_true, ite_false, ↓reduceIte, and_true, true_and, eq_self, Int.add_zero, Int.reduceAdd]; omega) | (simp (disch := omega) only [sA_same, sA_ne, ud_eq, ud_ne, Int.add_zero, Int.reduceAdd]; omega)) | exact o2 (by first | omega | (simp only [sA_same, sA_s, ud_s, Int.reduceEq, if_true, if_false, ite_true, ite_false, ↓reduceIte, and_true, true_and, eq_self, Int.add_zero, Int.reduceAdd]; omega) | (simp (disch := omega) only [sA_same, sA_ne, ud_eq, ud_ne, Int.add_zero, Int.reduceAdd]; omega))
          · refine v_iconst (n := 35) xB_113 dX10_isKindOrUnder_34 ⟨by decide, by decide⟩ rfl ?_
            refine v_goto (t := 39) xB_113 dX10_isKindOrUnder_35 (by decide) rfl ?_
            refine v_ireturn1 xB_113 dX10_isKindOrUnder_39 xK_113 (by decide) ?_
            first | exact o1 (by first | omega | (simp only [sA_same, sA_s, ud_s, Int.reduceEq, if_true, if_false, ite_true, ite_false, ↓reduceIte, and_true, true_and, eq_self, Int.add_zero, Int.reduceAdd]; omega) | (simp (disch := omega) only [sA_same, sA_ne, ud_eq, ud_ne, Int.add_zero, Int.reduceAdd]; omega)) | exact o2 (by first | omega | (simp only [sA_same, sA_s, ud_s, Int.reduceEq, if_true, if_false, ite_true, ite_false, ↓reduceIte, and_true, true_and, eq_self, Int.add_zero, Int.reduceAdd]; omega) | (simp (disch := omega) only [sA_same, sA_ne, ud_eq, ud_ne, Int.add_zero, Int.reduceAdd]; omega))
        · refine v_gst_0 (n := 20) xB_113 dX10_isKindOrUnder_17 xO_113 gs_10_291 rfl ?_
          refine v_iload_n (n := 21) xB_113 dX10_isKindOrUnder_20 rfl rfl ?_
          refine v_iaload (n := 22) (lz := 7) xB_113 dX10_isKindOrUnder_21 (sh_ka _ _ _) rfl (by first | omega | (simp only [sA_same, sA_s, ud_s, Int.reduceEq, if_true, if_false, ite_true, ite_false, ↓reduceIte, and_true, true_and, eq_self, Int.add_zero, Int.reduceAdd]; omega) | (simp (disch := omega) only [sA_same, sA_ne, ud_eq, ud_ne, Int.add_zero, Int.reduceAdd]; omega)) rfl ?_
          (try simp only [K0, K1, K2, K3, K4, K5, K6])
          refine v_istore_n2 (n := 23) xB_113 dX10_isKindOrUnder_22 rfl rfl ?_
          refine v_iinc3 (n := 26) xB_113 dX10_isKindOrUnder_23 rfl (by first | omega | (simp only [sA_same, sA_s, ud_s, Int.reduceEq, if_true, if_false, ite_true, ite_false, ↓reduceIte, and_true, true_and, eq_self, Int.add_zero, Int.reduceAdd]; omega) | (simp (disch := omega) only [sA_same, sA_ne, ud_eq, ud_ne, Int.add_zero, Int.reduceAdd]; omega)) rfl ?_
          refine v_goto (t := 4) xB_113 dX10_isKindOrUnder_26 (by decide) rfl ?_
          refine v_iload_n (n := 5) xB_113 dX10_isKindOrUnder_4 rfl rfl ?_
          refine v_gst_0 (n := 8) xB_113 dX10_isKindOrUnder_5 xO_113 gs_10_291 rfl ?_
          refine v_alen (n := 9) (lz := 7) xB_113 dX10_isKindOrUnder_8 (sh_ka _ _ _) (by decide) rfl rfl ?_
          refine v_ic_ge_n (n := 12) xB_113 dX10_isKindOrUnder_9 (by decide) rfl (by decide) ?_
          refine v_iload_n (n := 13) xB_113 dX10_isKindOrUnder_12 rfl rfl ?_
          refine v_iload_n (n := 14) xB_113 dX10_isKindOrUnder_13 rfl rfl ?_
          refine v_ic_le (t := 29) (n := 17) xB_113 dX10_isKindOrUnder_14 (by decide) rfl rfl (fun g7 => ?_) (fun g7 => ?_)
          · refine v_iload_n (n := 30) xB_113 dX10_isKindOrUnder_29 rfl rfl ?_
            refine v_iload_n (n := 31) xB_113 dX10_isKindOrUnder_30 rfl rfl ?_
            refine v_ic_ne (t := 38) (n := 34) xB_113 dX10_isKindOrUnder_31 (by decide) rfl rfl (fun g8 => ?_) (fun g8 => ?_)
            · refine v_iconst (n := 39) xB_113 dX10_isKindOrUnder_38 ⟨by decide, by decide⟩ rfl ?_
              refine v_ireturn1 xB_113 dX10_isKindOrUnder_39 xK_113 (by decide) ?_
              first | exact o1 (by first | omega | (simp only [sA_same, sA_s, ud_s, Int.reduceEq, if_true, if_false, ite_true, ite_false, ↓reduceIte, and_true, true_and, eq_self, Int.add_zero, Int.reduceAdd]; omega) | (simp (disch := omega) only [sA_same, sA_ne, ud_eq, ud_ne, Int.add_zero, Int.reduceAdd]; omega)) | exact o2 (by first | omega | (simp only [sA_same, sA_s, ud_s, Int.reduceEq, if_true, if_false, ite_true, ite_false, ↓reduceIte, and_true, true_and, eq_self, Int.add_zero, Int.reduceAdd]; omega) | (simp (disch := omega) only [sA_same, sA_ne, ud_eq, ud_ne, Int.add_zero, Int.reduceAdd]; omega))
            · refine v_iconst (n := 35) xB_113 dX10_isKindOrUnder_34 ⟨by decide, by decide⟩ rfl ?_
              refine v_goto (t := 39) xB_113 dX10_isKindOrUnder_35 (by decide) rfl ?_
              refine v_ireturn1 xB_113 dX10_isKindOrUnder_39 xK_113 (by decide) ?_
              first | exact o1 (by first | omega | (simp only [sA_same, sA_s, ud_s, Int.reduceEq, if_true, if_false, ite_true, ite_false, ↓reduceIte, and_true, true_and, eq_self, Int.add_zero, Int.reduceAdd]; omega) | (simp (disch := omega) only [sA_same, sA_ne, ud_eq, ud_ne, Int.add_zero, Int.reduceAdd]; omega)) | exact o2 (by first | omega | (simp only [sA_same, sA_s, ud_s, Int.reduceEq, if_true, if_false, ite_true, ite_false, ↓reduceIte, and_true, true_and, eq_self, Int.add_zero, Int.reduceAdd]; omega) | (simp (disch := omega) only [sA_same, sA_ne, ud_eq, ud_ne, Int.add_zero, Int.reduceAdd]; omega))
          · refine v_gst_0 (n := 20) xB_113 dX10_isKindOrUnder_17 xO_113 gs_10_291 rfl ?_
            refine v_iload_n (n := 21) xB_113 dX10_isKindOrUnder_20 rfl rfl ?_
            refine v_iaload (n := 22) (lz := 7) xB_113 dX10_isKindOrUnder_21 (sh_ka _ _ _) rfl (by first | omega | (simp only [sA_same, sA_s, ud_s, Int.reduceEq, if_true, if_false, ite_true, ite_false, ↓reduceIte, and_true, true_and, eq_self, Int.add_zero, Int.reduceAdd]; omega) | (simp (disch := omega) only [sA_same, sA_ne, ud_eq, ud_ne, Int.add_zero, Int.reduceAdd]; omega)) rfl ?_
            (try simp only [K0, K1, K2, K3, K4, K5, K6])
            refine v_istore_n2 (n := 23) xB_113 dX10_isKindOrUnder_22 rfl rfl ?_
            refine v_iinc3 (n := 26) xB_113 dX10_isKindOrUnder_23 rfl (by first | omega | (simp only [sA_same, sA_s, ud_s, Int.reduceEq, if_true, if_false, ite_true, ite_false, ↓reduceIte, and_true, true_and, eq_self, Int.add_zero, Int.reduceAdd]; omega) | (simp (disch := omega) only [sA_same, sA_ne, ud_eq, ud_ne, Int.add_zero, Int.reduceAdd]; omega)) rfl ?_
            refine v_goto (t := 4) xB_113 dX10_isKindOrUnder_26 (by decide) rfl ?_
            refine v_iload_n (n := 5) xB_113 dX10_isKindOrUnder_4 rfl rfl ?_
            refine v_gst_0 (n := 8) xB_113 dX10_isKindOrUnder_5 xO_113 gs_10_291 rfl ?_
            refine v_alen (n := 9) (lz := 7) xB_113 dX10_isKindOrUnder_8 (sh_ka _ _ _) (by decide) rfl rfl ?_
            refine v_ic_ge_n (n := 12) xB_113 dX10_isKindOrUnder_9 (by decide) rfl (by decide) ?_
            refine v_iload_n (n := 13) xB_113 dX10_isKindOrUnder_12 rfl rfl ?_
            refine v_iload_n (n := 14) xB_113 dX10_isKindOrUnder_13 rfl rfl ?_
            refine v_ic_le (t := 29) (n := 17) xB_113 dX10_isKindOrUnder_14 (by decide) rfl rfl (fun g9 => ?_) (fun g9 => ?_)
            · refine v_iload_n (n := 30) xB_113 dX10_isKindOrUnder_29 rfl rfl ?_
              refine v_iload_n (n := 31) xB_113 dX10_isKindOrUnder_30 rfl rfl ?_
              refine v_ic_ne (t := 38) (n := 34) xB_113 dX10_isKindOrUnder_31 (by decide) rfl rfl (fun g10 => ?_) (fun g10 => ?_)
              · refine v_iconst (n := 39) xB_113 dX10_isKindOrUnder_38 ⟨by decide, by decide⟩ rfl ?_
                refine v_ireturn1 xB_113 dX10_isKindOrUnder_39 xK_113 (by decide) ?_
                first | exact o1 (by first | omega | (simp only [sA_same, sA_s, ud_s, Int.reduceEq, if_true, if_false, ite_true, ite_false, ↓reduceIte, and_true, true_and, eq_self, Int.add_zero, Int.reduceAdd]; omega) | (simp (disch := omega) only [sA_same, sA_ne, ud_eq, ud_ne, Int.add_zero, Int.reduceAdd]; omega)) | exact o2 (by first | omega | (simp only [sA_same, sA_s, ud_s, Int.reduceEq, if_true, if_false, ite_true, ite_false, ↓reduceIte, and_true, true_and, eq_self, Int.add_zero, Int.reduceAdd]; omega) | (simp (disch := omega) only [sA_same, sA_ne, ud_eq, ud_ne, Int.add_zero, Int.reduceAdd]; omega))
              · refine v_iconst (n := 35) xB_113 dX10_isKindOrUnder_34 ⟨by decide, by decide⟩ rfl ?_
                refine v_goto (t := 39) xB_113 dX10_isKindOrUnder_35 (by decide) rfl ?_
                refine v_ireturn1 xB_113 dX10_isKindOrUnder_39 xK_113 (by decide) ?_
                first | exact o1 (by first | omega | (simp only [sA_same, sA_s, ud_s, Int.reduceEq, if_true, if_false, ite_true, ite_false, ↓reduceIte, and_true, true_and, eq_self, Int.add_zero, Int.reduceAdd]; omega) | (simp (disch := omega) only [sA_same, sA_ne, ud_eq, ud_ne, Int.add_zero, Int.reduceAdd]; omega)) | exact o2 (by first | omega | (simp only [sA_same, sA_s, ud_s, Int.reduceEq, if_true, if_false, ite_true, ite_false, ↓reduceIte, and_true, true_and, eq_self, Int.add_zero, Int.reduceAdd]; omega) | (simp (disch := omega) only [sA_same, sA_ne, ud_eq, ud_ne, Int.add_zero, Int.reduceAdd]; omega))
            · refine v_gst_0 (n := 20) xB_113 dX10_isKindOrUnder_17 xO_113 gs_10_291 rfl ?_
              refine v_iload_n (n := 21) xB_113 dX10_isKindOrUnder_20 rfl rfl ?_
              refine v_iaload (n := 22) (lz := 7) xB_113 dX10_isKindOrUnder_21 (sh_ka _ _ _) rfl (by first | omega | (simp only [sA_same, sA_s, ud_s, Int.reduceEq, if_true, if_false, ite_true, ite_false, ↓reduceIte, and_true, true_and, eq_self, Int.add_zero, Int.reduceAdd]; omega) | (simp (disch := omega) only [sA_same, sA_ne, ud_eq, ud_ne, Int.add_zero, Int.reduceAdd]; omega)) rfl ?_
              (try simp only [K0, K1, K2, K3, K4, K5, K6])
              refine v_istore_n2 (n := 23) xB_113 dX10_isKindOrUnder_22 rfl rfl ?_
              refine v_iinc3 (n := 26) xB_113 dX10_isKindOrUnder_23 rfl (by first | omega | (simp only [sA_same, sA_s, ud_s, Int.reduceEq, if_true, if_false, ite_true, ite_false, ↓reduceIte, and_true, true_and, eq_self, Int.add_zero, Int.reduceAdd]; omega) | (simp (disch := omega) only [sA_same, sA_ne, ud_eq, ud_ne, Int.add_zero, Int.reduceAdd]; omega)) rfl ?_
              refine v_goto (t := 4) xB_113 dX10_isKindOrUnder_26 (by decide) rfl ?_
              refine v_iload_n (n := 5) xB_113 dX10_isKindOrUnder_4 rfl rfl ?_
              refine v_gst_0 (n := 8) xB_113 dX10_isKindOrUnder_5 xO_113 gs_10_291 rfl ?_
              refine v_alen (n := 9) (lz := 7) xB_113 dX10_isKindOrUnder_8 (sh_ka _ _ _) (by decide) rfl rfl ?_
              refine v_ic_ge_n (n := 12) xB_113 dX10_isKindOrUnder_9 (by decide) rfl (by decide) ?_
              refine v_iload_n (n := 13) xB_113 dX10_isKindOrUnder_12 rfl rfl ?_
              refine v_iload_n (n := 14) xB_113 dX10_isKindOrUnder_13 rfl rfl ?_
              refine v_ic_le (t := 29) (n := 17) xB_113 dX10_isKindOrUnder_14 (by decide) rfl rfl (fun g11 => ?_) (fun g11 => ?_)
              · refine v_iload_n (n := 30) xB_113 dX10_isKindOrUnder_29 rfl rfl ?_
                refine v_iload_n (n := 31) xB_113 dX10_isKindOrUnder_30 rfl rfl ?_
                refine v_ic_ne (t := 38) (n := 34) xB_113 dX10_isKindOrUnder_31 (by decide) rfl rfl (fun g12 => ?_) (fun g12 => ?_)
                · refine v_iconst (n := 39) xB_113 dX10_isKindOrUnder_38 ⟨by decide, by decide⟩ rfl ?_
                  refine v_ireturn1 xB_113 dX10_isKindOrUnder_39 xK_113 (by decide) ?_
                  first | exact o1 (by first | omega | (simp only [sA_same, sA_s, ud_s, Int.reduceEq, if_true, if_false, ite_true, ite_false, ↓reduceIte, and_true, true_and, eq_self, Int.add_zero, Int.reduceAdd]; omega) | (simp (disch := omega) only [sA_same, sA_ne, ud_eq, ud_ne, Int.add_zero, Int.reduceAdd]; omega)) | exact o2 (by first | omega | (simp only [sA_same, sA_s, ud_s, Int.reduceEq, if_true, if_false, ite_true, ite_false, ↓reduceIte, and_true, true_and, eq_self, Int.add_zero, Int.reduceAdd]; omega) | (simp (disch := omega) only [sA_same, sA_ne, ud_eq, ud_ne, Int.add_zero, Int.reduceAdd]; omega))
                · refine v_iconst (n := 35) xB_113 dX10_isKindOrUnder_34 ⟨by decide, by decide⟩ rfl ?_
                  refine v_goto (t := 39) xB_113 dX10_isKindOrUnder_35 (by decide) rfl ?_
                  refine v_ireturn1 xB_113 dX10_isKindOrUnder_39 xK_113 (by decide) ?_
                  first | exact o1 (by first | omega | (simp only [sA_same, sA_s, ud_s, Int.reduceEq, if_true, if_false, ite_true, ite_false, ↓reduceIte, and_true, true_and, eq_self, Int.add_zero, Int.reduceAdd]; omega) | (simp (disch := omega) only [sA_same, sA_ne, ud_eq, ud_ne, Int.add_zero, Int.reduceAdd]; omega)) | exact o2 (by first | omega | (simp only [sA_same, sA_s, ud_s, Int.reduceEq, if_true, if_false, ite_true, ite_false, ↓reduceIte, and_true, true_and, eq_self, Int.add_zero, Int.reduceAdd]; omega) | (simp (disch := omega) only [sA_same, sA_ne, ud_eq, ud_ne, Int.add_zero, Int.reduceAdd]; omega))
              · refine v_gst_0 (n := 20) xB_113 dX10_isKindOrUnder_17 xO_113 gs_10_291 rfl ?_
                refine v_iload_n (n := 21) xB_113 dX10_isKindOrUnder_20 rfl rfl ?_
                refine v_iaload (n := 22) (lz := 7) xB_113 dX10_isKindOrUnder_21 (sh_ka _ _ _) rfl (by first | omega | (simp only [sA_same, sA_s, ud_s, Int.reduceEq, if_true, if_false, ite_true, ite_false, ↓reduceIte, and_true, true_and, eq_self, Int.add_zero, Int.reduceAdd]; omega) | (simp (disch := omega) only [sA_same, sA_ne, ud_eq, ud_ne, Int.add_zero, Int.reduceAdd]; omega)) rfl ?_
                (try simp only [K0, K1, K2, K3, K4, K5, K6])
                refine v_istore_n2 (n := 23) xB_113 dX10_isKindOrUnder_22 rfl rfl ?_
                refine v_iinc3 (n := 26) xB_113 dX10_isKindOrUnder_23 rfl (by first | omega | (simp only [sA_same, sA_s, ud_s, Int.reduceEq, if_true, if_false, ite_true, ite_false, ↓reduceIte, and_true, true_and, eq_self, Int.add_zero, Int.reduceAdd]; omega) | (simp (disch := omega) only [sA_same, sA_ne, ud_eq, ud_ne, Int.add_zero, Int.reduceAdd]; omega)) rfl ?_
                refine v_goto (t := 4) xB_113 dX10_isKindOrUnder_26 (by decide) rfl ?_
                refine v_iload_n (n := 5) xB_113 dX10_isKindOrUnder_4 rfl rfl ?_
                refine v_gst_0 (n := 8) xB_113 dX10_isKindOrUnder_5 xO_113 gs_10_291 rfl ?_
                refine v_alen (n := 9) (lz := 7) xB_113 dX10_isKindOrUnder_8 (sh_ka _ _ _) (by decide) rfl rfl ?_
                refine v_ic_ge_n (n := 12) xB_113 dX10_isKindOrUnder_9 (by decide) rfl (by decide) ?_
                refine v_iload_n (n := 13) xB_113 dX10_isKindOrUnder_12 rfl rfl ?_
                refine v_iload_n (n := 14) xB_113 dX10_isKindOrUnder_13 rfl rfl ?_
                refine v_ic_le (t := 29) (n := 17) xB_113 dX10_isKindOrUnder_14 (by decide) rfl rfl (fun g13 => ?_) (fun g13 => ?_)
                · refine v_iload_n (n := 30) xB_113 dX10_isKindOrUnder_29 rfl rfl ?_
                  refine v_iload_n (n := 31) xB_113 dX10_isKindOrUnder_30 rfl rfl ?_
                  refine v_ic_ne (t := 38) (n := 34) xB_113 dX10_isKindOrUnder_31 (by decide) rfl rfl (fun g14 => ?_) (fun g14 => ?_)
                  · refine v_iconst (n := 39) xB_113 dX10_isKindOrUnder_38 ⟨by decide, by decide⟩ rfl ?_
                    refine v_ireturn1 xB_113 dX10_isKindOrUnder_39 xK_113 (by decide) ?_
                    first | exact o1 (by first | omega | (simp only [sA_same, sA_s, ud_s, Int.reduceEq, if_true, if_false, ite_true, ite_false, ↓reduceIte, and_true, true_and, eq_self, Int.add_zero, Int.reduceAdd]; omega) | (simp (disch := omega) only [sA_same, sA_ne, ud_eq, ud_ne, Int.add_zero, Int.reduceAdd]; omega)) | exact o2 (by first | omega | (simp only [sA_same, sA_s, ud_s, Int.reduceEq, if_true, if_false, ite_true, ite_false, ↓reduceIte, and_true, true_and, eq_self, Int.add_zero, Int.reduceAdd]; omega) | (simp (disch := omega) only [sA_same, sA_ne, ud_eq, ud_ne, Int.add_zero, Int.reduceAdd]; omega))
                  · refine v_iconst (n := 35) xB_113 dX10_isKindOrUnder_34 ⟨by decide, by decide⟩ rfl ?_
                    refine v_goto (t := 39) xB_113 dX10_isKindOrUnder_35 (by decide) rfl ?_
                    refine v_ireturn1 xB_113 dX10_isKindOrUnder_39 xK_113 (by decide) ?_
                    first | exact o1 (by first | omega | (simp only [sA_same, sA_s, ud_s, Int.reduceEq, if_true, if_false, ite_true, ite_false, ↓reduceIte, and_true, true_and, eq_self, Int.add_zero, Int.reduceAdd]; omega) | (simp (disch := omega) only [sA_same, sA_ne, ud_eq, ud_ne, Int.add_zero, Int.reduceAdd]; omega)) | exact o2 (by first | omega | (simp only [sA_same, sA_s, ud_s, Int.reduceEq, if_true, if_false, ite_true, ite_false, ↓reduceIte, and_true, true_and, eq_self, Int.add_zero, Int.reduceAdd]; omega) | (simp (disch := omega) only [sA_same, sA_ne, ud_eq, ud_ne, Int.add_zero, Int.reduceAdd]; omega))
                · refine v_gst_0 (n := 20) xB_113 dX10_isKindOrUnder_17 xO_113 gs_10_291 rfl ?_
                  refine v_iload_n (n := 21) xB_113 dX10_isKindOrUnder_20 rfl rfl ?_
                  refine v_iaload (n := 22) (lz := 7) xB_113 dX10_isKindOrUnder_21 (sh_ka _ _ _) rfl (by first | omega | (simp only [sA_same, sA_s, ud_s, Int.reduceEq, if_true, if_false, ite_true, ite_false, ↓reduceIte, and_true, true_and, eq_self, Int.add_zero, Int.reduceAdd]; omega) | (simp (disch := omega) only [sA_same, sA_ne, ud_eq, ud_ne, Int.add_zero, Int.reduceAdd]; omega)) rfl ?_
                  (try simp only [K0, K1, K2, K3, K4, K5, K6])
                  refine v_istore_n2 (n := 23) xB_113 dX10_isKindOrUnder_22 rfl rfl ?_
                  refine v_iinc3 (n := 26) xB_113 dX10_isKindOrUnder_23 rfl (by first | omega | (simp only [sA_same, sA_s, ud_s, Int.reduceEq, if_true, if_false, ite_true, ite_false, ↓reduceIte, and_true, true_and, eq_self, Int.add_zero, Int.reduceAdd]; omega) | (simp (disch := omega) only [sA_same, sA_ne, ud_eq, ud_ne, Int.add_zero, Int.reduceAdd]; omega)) rfl ?_
                  refine v_goto (t := 4) xB_113 dX10_isKindOrUnder_26 (by decide) rfl ?_
                  refine v_iload_n (n := 5) xB_113 dX10_isKindOrUnder_4 rfl rfl ?_
                  refine v_gst_0 (n := 8) xB_113 dX10_isKindOrUnder_5 xO_113 gs_10_291 rfl ?_
                  refine v_alen (n := 9) (lz := 7) xB_113 dX10_isKindOrUnder_8 (sh_ka _ _ _) (by decide) rfl rfl ?_
                  refine v_ic_ge_y (t := 29) xB_113 dX10_isKindOrUnder_9 (by decide) rfl (by decide) ?_
                  refine v_iload_n (n := 30) xB_113 dX10_isKindOrUnder_29 rfl rfl ?_
                  refine v_iload_n (n := 31) xB_113 dX10_isKindOrUnder_30 rfl rfl ?_
                  refine v_ic_ne (t := 38) (n := 34) xB_113 dX10_isKindOrUnder_31 (by decide) rfl rfl (fun g15 => ?_) (fun g15 => ?_)
                  · refine v_iconst (n := 39) xB_113 dX10_isKindOrUnder_38 ⟨by decide, by decide⟩ rfl ?_
                    refine v_ireturn1 xB_113 dX10_isKindOrUnder_39 xK_113 (by decide) ?_
                    first | exact o1 (by first | omega | (simp only [sA_same, sA_s, ud_s, Int.reduceEq, if_true, if_false, ite_true, ite_false, ↓reduceIte, and_true, true_and, eq_self, Int.add_zero, Int.reduceAdd]; omega) | (simp (disch := omega) only [sA_same, sA_ne, ud_eq, ud_ne, Int.add_zero, Int.reduceAdd]; omega)) | exact o2 (by first | omega | (simp only [sA_same, sA_s, ud_s, Int.reduceEq, if_true, if_false, ite_true, ite_false, ↓reduceIte, and_true, true_and, eq_self, Int.add_zero, Int.reduceAdd]; omega) | (simp (disch := omega) only [sA_same, sA_ne, ud_eq, ud_ne, Int.add_zero, Int.reduceAdd]; omega))
                  · refine v_iconst (n := 35) xB_113 dX10_isKindOrUnder_34 ⟨by decide, by decide⟩ rfl ?_
                    refine v_goto (t := 39) xB_113 dX10_isKindOrUnder_35 (by decide) rfl ?_
                    refine v_ireturn1 xB_113 dX10_isKindOrUnder_39 xK_113 (by decide) ?_
                    first | exact o1 (by first | omega | (simp only [sA_same, sA_s, ud_s, Int.reduceEq, if_true, if_false, ite_true, ite_false, ↓reduceIte, and_true, true_and, eq_self, Int.add_zero, Int.reduceAdd]; omega) | (simp (disch := omega) only [sA_same, sA_ne, ud_eq, ud_ne, Int.add_zero, Int.reduceAdd]; omega)) | exact o2 (by first | omega | (simp only [sA_same, sA_s, ud_s, Int.reduceEq, if_true, if_false, ite_true, ite_false, ↓reduceIte, and_true, true_and, eq_self, Int.add_zero, Int.reduceAdd]; omega) | (simp (disch := omega) only [sA_same, sA_ne, ud_eq, ud_ne, Int.add_zero, Int.reduceAdd]; omega))
  · subst hx
    refine v_iload_n (n := 1) xB_113 dX10_isKindOrUnder_0 rfl rfl ?_
    refine v_istore_n2 (n := 2) xB_113 dX10_isKindOrUnder_1 rfl rfl ?_
    refine v_iconst (n := 3) xB_113 dX10_isKindOrUnder_2 ⟨by decide, by decide⟩ rfl ?_
    refine v_istore_n3 (n := 4) xB_113 dX10_isKindOrUnder_3 rfl rfl ?_
    refine v_iload_n (n := 5) xB_113 dX10_isKindOrUnder_4 rfl rfl ?_
    refine v_gst_0 (n := 8) xB_113 dX10_isKindOrUnder_5 xO_113 gs_10_291 rfl ?_
    refine v_alen (n := 9) (lz := 7) xB_113 dX10_isKindOrUnder_8 (sh_ka _ _ _) (by decide) rfl rfl ?_
    refine v_ic_ge_n (n := 12) xB_113 dX10_isKindOrUnder_9 (by decide) rfl (by decide) ?_
    refine v_iload_n (n := 13) xB_113 dX10_isKindOrUnder_12 rfl rfl ?_
    refine v_iload_n (n := 14) xB_113 dX10_isKindOrUnder_13 rfl rfl ?_
    refine v_ic_le (t := 29) (n := 17) xB_113 dX10_isKindOrUnder_14 (by decide) rfl rfl (fun g1 => ?_) (fun g1 => ?_)
    · refine v_iload_n (n := 30) xB_113 dX10_isKindOrUnder_29 rfl rfl ?_
      refine v_iload_n (n := 31) xB_113 dX10_isKindOrUnder_30 rfl rfl ?_
      refine v_ic_ne (t := 38) (n := 34) xB_113 dX10_isKindOrUnder_31 (by decide) rfl rfl (fun g2 => ?_) (fun g2 => ?_)
      · refine v_iconst (n := 39) xB_113 dX10_isKindOrUnder_38 ⟨by decide, by decide⟩ rfl ?_
        refine v_ireturn1 xB_113 dX10_isKindOrUnder_39 xK_113 (by decide) ?_
        first | exact o1 (by first | omega | (simp only [sA_same, sA_s, ud_s, Int.reduceEq, if_true, if_false, ite_true, ite_false, ↓reduceIte, and_true, true_and, eq_self, Int.add_zero, Int.reduceAdd]; omega) | (simp (disch := omega) only [sA_same, sA_ne, ud_eq, ud_ne, Int.add_zero, Int.reduceAdd]; omega)) | exact o2 (by first | omega | (simp only [sA_same, sA_s, ud_s, Int.reduceEq, if_true, if_false, ite_true, ite_false, ↓reduceIte, and_true, true_and, eq_self, Int.add_zero, Int.reduceAdd]; omega) | (simp (disch := omega) only [sA_same, sA_ne, ud_eq, ud_ne, Int.add_zero, Int.reduceAdd]; omega))
      · refine v_iconst (n := 35) xB_113 dX10_isKindOrUnder_34 ⟨by decide, by decide⟩ rfl ?_
        refine v_goto (t := 39) xB_113 dX10_isKindOrUnder_35 (by decide) rfl ?_
        refine v_ireturn1 xB_113 dX10_isKindOrUnder_39 xK_113 (by decide) ?_
        first | exact o1 (by first | omega | (simp only [sA_same, sA_s, ud_s, Int.reduceEq, if_true, if_false, ite_true, ite_false, ↓reduceIte, and_true, true_and, eq_self, Int.add_zero, Int.reduceAdd]; omega) | (simp (disch := omega) only [sA_same, sA_ne, ud_eq, ud_ne, Int.add_zero, Int.reduceAdd]; omega)) | exact o2 (by first | omega | (simp only [sA_same, sA_s, ud_s, Int.reduceEq, if_true, if_false, ite_true, ite_false, ↓reduceIte, and_true, true_and, eq_self, Int.add_zero, Int.reduceAdd]; omega) | (simp (disch := omega) only [sA_same, sA_ne, ud_eq, ud_ne, Int.add_zero, Int.reduceAdd]; omega))
    · refine v_gst_0 (n := 20) xB_113 dX10_isKindOrUnder_17 xO_113 gs_10_291 rfl ?_
      refine v_iload_n (n := 21) xB_113 dX10_isKindOrUnder_20 rfl rfl ?_
      refine v_iaload (n := 22) (lz := 7) xB_113 dX10_isKindOrUnder_21 (sh_ka _ _ _) rfl (by first | omega | (simp only [sA_same, sA_s, ud_s, Int.reduceEq, if_true, if_false, ite_true, ite_false, ↓reduceIte, and_true, true_and, eq_self, Int.add_zero, Int.reduceAdd]; omega) | (simp (disch := omega) only [sA_same, sA_ne, ud_eq, ud_ne, Int.add_zero, Int.reduceAdd]; omega)) rfl ?_
      (try simp only [K0, K1, K2, K3, K4, K5, K6])
      refine v_istore_n2 (n := 23) xB_113 dX10_isKindOrUnder_22 rfl rfl ?_
      refine v_iinc3 (n := 26) xB_113 dX10_isKindOrUnder_23 rfl (by first | omega | (simp only [sA_same, sA_s, ud_s, Int.reduceEq, if_true, if_false, ite_true, ite_false, ↓reduceIte, and_true, true_and, eq_self, Int.add_zero, Int.reduceAdd]; omega) | (simp (disch := omega) only [sA_same, sA_ne, ud_eq, ud_ne, Int.add_zero, Int.reduceAdd]; omega)) rfl ?_
      refine v_goto (t := 4) xB_113 dX10_isKindOrUnder_26 (by decide) rfl ?_
      refine v_iload_n (n := 5) xB_113 dX10_isKindOrUnder_4 rfl rfl ?_
      refine v_gst_0 (n := 8) xB_113 dX10_isKindOrUnder_5 xO_113 gs_10_291 rfl ?_
      refine v_alen (n := 9) (lz := 7) xB_113 dX10_isKindOrUnder_8 (sh_ka _ _ _) (by decide) rfl rfl ?_
      refine v_ic_ge_n (n := 12) xB_113 dX10_isKindOrUnder_9 (by decide) rfl (by decide) ?_
      refine v_iload_n (n := 13) xB_113 dX10_isKindOrUnder_12 rfl rfl ?_
      refine v_iload_n (n := 14) xB_113 dX10_isKindOrUnder_13 rfl rfl ?_
      refine v_ic_le (t := 29) (n := 17) xB_113 dX10_isKindOrUnder_14 (by decide) rfl rfl (fun g3 => ?_) (fun g3 => ?_)
      · refine v_iload_n (n := 30) xB_113 dX10_isKindOrUnder_29 rfl rfl ?_
        refine v_iload_n (n := 31) xB_113 dX10_isKindOrUnder_30 rfl rfl ?_
        refine v_ic_ne (t := 38) (n := 34) xB_113 dX10_isKindOrUnder_31 (by decide) rfl rfl (fun g4 => ?_) (fun g4 => ?_)
        · refine v_iconst (n := 39) xB_113 dX10_isKindOrUnder_38 ⟨by decide, by decide⟩ rfl ?_
          refine v_ireturn1 xB_113 dX10_isKindOrUnder_39 xK_113 (by decide) ?_
          first | exact o1 (by first | omega | (simp only [sA_same, sA_s, ud_s, Int.reduceEq, if_true, if_false, ite_true, ite_false, ↓reduceIte, and_true, true_and, eq_self, Int.add_zero, Int.reduceAdd]; omega) | (simp (disch := omega) only [sA_same, sA_ne, ud_eq, ud_ne, Int.add_zero, Int.reduceAdd]; omega)) | exact o2 (by first | omega | (simp only [sA_same, sA_s, ud_s, Int.reduceEq, if_true, if_false, ite_true, ite_false, ↓reduceIte, and_true, true_and, eq_self, Int.add_zero, Int.reduceAdd]; omega) | (simp (disch := omega) only [sA_same, sA_ne, ud_eq, ud_ne, Int.add_zero, Int.reduceAdd]; omega))
        · refine v_iconst (n := 35) xB_113 dX10_isKindOrUnder_34 ⟨by decide, by decide⟩ rfl ?_
          refine v_goto (t := 39) xB_113 dX10_isKindOrUnder_35 (by decide) rfl ?_
          refine v_ireturn1 xB_113 dX10_isKindOrUnder_39 xK_113 (by decide) ?_
          first | exact o1 (by first | omega | (simp only [sA_same, sA_s, ud_s, Int.reduceEq, if_true, if_false, ite_true, ite_false, ↓reduceIte, and_true, true_and, eq_self, Int.add_zero, Int.reduceAdd]; omega) | (simp (disch := omega) only [sA_same, sA_ne, ud_eq, ud_ne, Int.add_zero, Int.reduceAdd]; omega)) | exact o2 (by first | omega | (simp only [sA_same, sA_s, ud_s, Int.reduceEq, if_true, if_false, ite_true, ite_false, ↓reduceIte, and_true, true_and, eq_self, Int.add_zero, Int.reduceAdd]; omega) | (simp (disch := omega) only [sA_same, sA_ne, ud_eq, ud_ne, Int.add_zero, Int.reduceAdd]; omega))
      · refine v_gst_0 (n := 20) xB_113 dX10_isKindOrUnder_17 xO_113 gs_10_291 rfl ?_
        refine v_iload_n (n := 21) xB_113 dX10_isKindOrUnder_20 rfl rfl ?_
        refine v_iaload (n := 22) (lz := 7) xB_113 dX10_isKindOrUnder_21 (sh_ka _ _ _) rfl (by first | omega | (simp only [sA_same, sA_s, ud_s, Int.reduceEq, if_true, if_false, ite_true, ite_false, ↓reduceIte, and_true, true_and, eq_self, Int.add_zero, Int.reduceAdd]; omega) | (simp (disch := omega) only [sA_same, sA_ne, ud_eq, ud_ne, Int.add_zero, Int.reduceAdd]; omega)) rfl ?_
        (try simp only [K0, K1, K2, K3, K4, K5, K6])
        refine v_istore_n2 (n := 23) xB_113 dX10_isKindOrUnder_22 rfl rfl ?_
        refine v_iinc3 (n := 26) xB_113 dX10_isKindOrUnder_23 rfl (by first | omega | (simp only [sA_same, sA_s, ud_s, Int.reduceEq, if_true, if_false, ite_true, ite_false, ↓reduceIte, and_true, true_and, eq_self, Int.add_zero, Int.reduceAdd]; omega) | (simp (disch := omega) only [sA_same, sA_ne, ud_eq, ud_ne, Int.add_zero, Int.reduceAdd]; omega)) rfl ?_
        refine v_goto (t := 4) xB_113 dX10_isKindOrUnder_26 (by decide) rfl ?_
        refine v_iload_n (n := 5) xB_113 dX10_isKindOrUnder_4 rfl rfl ?_
        refine v_gst_0 (n := 8) xB_113 dX10_isKindOrUnder_5 xO_113 gs_10_291 rfl ?_
        refine v_alen (n := 9) (lz := 7) xB_113 dX10_isKindOrUnder_8 (sh_ka _ _ _) (by decide) rfl rfl ?_
        refine v_ic_ge_n (n := 12) xB_113 dX10_isKindOrUnder_9 (by decide) rfl (by decide) ?_
        refine v_iload_n (n := 13) xB_113 dX10_isKindOrUnder_12 rfl rfl ?_
        refine v_iload_n (n := 14) xB_113 dX10_isKindOrUnder_13 rfl rfl ?_
        refine v_ic_le (t := 29) (n := 17) xB_113 dX10_isKindOrUnder_14 (by decide) rfl rfl (fun g5 => ?_) (fun g5 => ?_)
        · refine v_iload_n (n := 30) xB_113 dX10_isKindOrUnder_29 rfl rfl ?_
          refine v_iload_n (n := 31) xB_113 dX10_isKindOrUnder_30 rfl rfl ?_
          refine v_ic_ne (t := 38) (n := 34) xB_113 dX10_isKindOrUnder_31 (by decide) rfl rfl (fun g6 => ?_) (fun g6 => ?_)
          · refine v_iconst (n := 39) xB_113 dX10_isKindOrUnder_38 ⟨by decide, by decide⟩ rfl ?_
            refine v_ireturn1 xB_113 dX10_isKindOrUnder_39 xK_113 (by decide) ?_
            first | exact o1 (by first | omega | (simp only [sA_same, sA_s, ud_s, Int.reduceEq, if_true, if_false, ite_true, ite_false, ↓reduceIte, and_true, true_and, eq_self, Int.add_zero, Int.reduceAdd]; omega) | (simp (disch := omega) only [sA_same, sA_ne, ud_eq, ud_ne, Int.add_zero, Int.reduceAdd]; omega)) | exact o2 (by first | omega | (simp only [sA_same, sA_s, ud_s, Int.reduceEq, if_true, if_false, ite_true, ite_false, ↓reduceIte, and_true, true_and, eq_self, Int.add_zero, Int.reduceAdd]; omega) | (simp (disch := omega) only [sA_same, sA_ne, ud_eq, ud_ne, Int.add_zero, Int.reduceAdd]; omega))
          · refine v_iconst (n := 35) xB_113 dX10_isKindOrUnder_34 ⟨by decide, by decide⟩ rfl ?_
            refine v_goto (t := 39) xB_113 dX10_isKindOrUnder_35 (by decide) rfl ?_
            refine v_ireturn1 xB_113 dX10_isKindOrUnder_39 xK_113 (by decide) ?_
            first | exact o1 (by first | omega | (simp only [sA_same, sA_s, ud_s, Int.reduceEq, if_true, if_false, ite_true, ite_false, ↓reduceIte, and_true, true_and, eq_self, Int.add_zero, Int.reduceAdd]; omega) | (simp (disch := omega) only [sA_same, sA_ne, ud_eq, ud_ne, Int.add_zero, Int.reduceAdd]; omega)) | exact o2 (by first | omega | (simp only [sA_same, sA_s, ud_s, Int.reduceEq, if_true, if_false, ite_true, ite_false, ↓reduceIte, and_true, true_and, eq_self, Int.add_zero, Int.reduceAdd]; omega) | (simp (disch := omega) only [sA_same, sA_ne, ud_eq, ud_ne, Int.add_zero, Int.reduceAdd]; omega))
        · refine v_gst_0 (n := 20) xB_113 dX10_isKindOrUnder_17 xO_113 gs_10_291 rfl ?_
          refine v_iload_n (n := 21) xB_113 dX10_isKindOrUnder_20 rfl rfl ?_
          refine v_iaload (n := 22) (lz := 7) xB_113 dX10_isKindOrUnder_21 (sh_ka _ _ _) rfl (by first | omega | (simp only [sA_same, sA_s, ud_s, Int.reduceEq, if_true, if_false, ite_true, ite_false, ↓reduceIte, and_true, true_and, eq_self, Int.add_zero, Int.reduceAdd]; omega) | (simp (disch := omega) only [sA_same, sA_ne, ud_eq, ud_ne, Int.add_zero, Int.reduceAdd]; omega)) rfl ?_
          (try simp only [K0, K1, K2, K3, K4, K5, K6])
          refine v_istore_n2 (n := 23) xB_113 dX10_isKindOrUnder_22 rfl rfl ?_
          refine v_iinc3 (n := 26) xB_113 dX10_isKindOrUnder_23 rfl (by first | omega | (simp only [sA_same, sA_s, ud_s, Int.reduceEq, if_true, if_false, ite_true, ite_false, ↓reduceIte, and_true, true_and, eq_self, Int.add_zero, Int.reduceAdd]; omega) | (simp (disch := omega) only [sA_same, sA_ne, ud_eq, ud_ne, Int.add_zero, Int.reduceAdd]; omega)) rfl ?_
          refine v_goto (t := 4) xB_113 dX10_isKindOrUnder_26 (by decide) rfl ?_
          refine v_iload_n (n := 5) xB_113 dX10_isKindOrUnder_4 rfl rfl ?_
          refine v_gst_0 (n := 8) xB_113 dX10_isKindOrUnder_5 xO_113 gs_10_291 rfl ?_
          refine v_alen (n := 9) (lz := 7) xB_113 dX10_isKindOrUnder_8 (sh_ka _ _ _) (by decide) rfl rfl ?_
          refine v_ic_ge_n (n := 12) xB_113 dX10_isKindOrUnder_9 (by decide) rfl (by decide) ?_
          refine v_iload_n (n := 13) xB_113 dX10_isKindOrUnder_12 rfl rfl ?_
          refine v_iload_n (n := 14) xB_113 dX10_isKindOrUnder_13 rfl rfl ?_
          refine v_ic_le (t := 29) (n := 17) xB_113 dX10_isKindOrUnder_14 (by decide) rfl rfl (fun g7 => ?_) (fun g7 => ?_)
          · refine v_iload_n (n := 30) xB_113 dX10_isKindOrUnder_29 rfl rfl ?_
            refine v_iload_n (n := 31) xB_113 dX10_isKindOrUnder_30 rfl rfl ?_
            refine v_ic_ne (t := 38) (n := 34) xB_113 dX10_isKindOrUnder_31 (by decide) rfl rfl (fun g8 => ?_) (fun g8 => ?_)
            · refine v_iconst (n := 39) xB_113 dX10_isKindOrUnder_38 ⟨by decide, by decide⟩ rfl ?_
              refine v_ireturn1 xB_113 dX10_isKindOrUnder_39 xK_113 (by decide) ?_
              first | exact o1 (by first | omega | (simp only [sA_same, sA_s, ud_s, Int.reduceEq, if_true, if_false, ite_true, ite_false, ↓reduceIte, and_true, true_and, eq_self, Int.add_zero, Int.reduceAdd]; omega) | (simp (disch := omega) only [sA_same, sA_ne, ud_eq, ud_ne, Int.add_zero, Int.reduceAdd]; omega)) | exact o2 (by first | omega | (simp only [sA_same, sA_s, ud_s, Int.reduceEq, if_true, if_false, ite_true, ite_false, ↓reduceIte, and_true, true_and, eq_self, Int.add_zero, Int.reduceAdd]; omega) | (simp (disch := omega) only [sA_same, sA_ne, ud_eq, ud_ne, Int.add_zero, Int.reduceAdd]; omega))
            · refine v_iconst (n := 35) xB_113 dX10_isKindOrUnder_34 ⟨by decide, by decide⟩ rfl ?_
              refine v_goto (t := 39) xB_113 dX10_isKindOrUnder_35 (by decide) rfl ?_
              refine v_ireturn1 xB_113 dX10_isKindOrUnder_39 xK_113 (by decide) ?_
              first | exact o1 (by first | omega | (simp only [sA_same, sA_s, ud_s, Int.reduceEq, if_true, if_false, ite_true, ite_false, ↓reduceIte, and_true, true_and, eq_self, Int.add_zero, Int.reduceAdd]; omega) | (simp (disch := omega) only [sA_same, sA_ne, ud_eq, ud_ne, Int.add_zero, Int.reduceAdd]; omega)) | exact o2 (by first | omega | (simp only [sA_same, sA_s, ud_s, Int.reduceEq, if_true, if_false, ite_true, ite_false, ↓reduceIte, and_true, true_and, eq_self, Int.add_zero, Int.reduceAdd]; omega) | (simp (disch := omega) only [sA_same, sA_ne, ud_eq, ud_ne, Int.add_zero, Int.reduceAdd]; omega))
          · refine v_gst_0 (n := 20) xB_113 dX10_isKindOrUnder_17 xO_113 gs_10_291 rfl ?_
            refine v_iload_n (n := 21) xB_113 dX10_isKindOrUnder_20 rfl rfl ?_
            refine v_iaload (n := 22) (lz := 7) xB_113 dX10_isKindOrUnder_21 (sh_ka _ _ _) rfl (by first | omega | (simp only [sA_same, sA_s, ud_s, Int.reduceEq, if_true, if_false, ite_true, ite_false, ↓reduceIte, and_true, true_and, eq_self, Int.add_zero, Int.reduceAdd]; omega) | (simp (disch := omega) only [sA_same, sA_ne, ud_eq, ud_ne, Int.add_zero, Int.reduceAdd]; omega)) rfl ?_
            (try simp only [K0, K1, K2, K3, K4, K5, K6])
            refine v_istore_n2 (n := 23) xB_113 dX10_isKindOrUnder_22 rfl rfl ?_
            refine v_iinc3 (n := 26) xB_113 dX10_isKindOrUnder_23 rfl (by first | omega | (simp only [sA_same, sA_s, ud_s, Int.reduceEq, if_true, if_false, ite_true, ite_false, ↓reduceIte, and_true, true_and, eq_self, Int.add_zero, Int.reduceAdd]; omega) | (simp (disch := omega) only [sA_same, sA_ne, ud_eq, ud_ne, Int.add_zero, Int.reduceAdd]; omega)) rfl ?_
            refine v_goto (t := 4) xB_113 dX10_isKindOrUnder_26 (by decide) rfl ?_
            refine v_iload_n (n := 5) xB_113 dX10_isKindOrUnder_4 rfl rfl ?_
            refine v_gst_0 (n := 8) xB_113 dX10_isKindOrUnder_5 xO_113 gs_10_291 rfl ?_
            refine v_alen (n := 9) (lz := 7) xB_113 dX10_isKindOrUnder_8 (sh_ka _ _ _) (by decide) rfl rfl ?_
            refine v_ic_ge_n (n := 12) xB_113 dX10_isKindOrUnder_9 (by decide) rfl (by decide) ?_
            refine v_iload_n (n := 13) xB_113 dX10_isKindOrUnder_12 rfl rfl ?_
            refine v_iload_n (n := 14) xB_113 dX10_isKindOrUnder_13 rfl rfl ?_
            refine v_ic_le (t := 29) (n := 17) xB_113 dX10_isKindOrUnder_14 (by decide) rfl rfl (fun g9 => ?_) (fun g9 => ?_)
            · refine v_iload_n (n := 30) xB_113 dX10_isKindOrUnder_29 rfl rfl ?_
              refine v_iload_n (n := 31) xB_113 dX10_isKindOrUnder_30 rfl rfl ?_
              refine v_ic_ne (t := 38) (n := 34) xB_113 dX10_isKindOrUnder_31 (by decide) rfl rfl (fun g10 => ?_) (fun g10 => ?_)
              · refine v_iconst (n := 39) xB_113 dX10_isKindOrUnder_38 ⟨by decide, by decide⟩ rfl ?_
                refine v_ireturn1 xB_113 dX10_isKindOrUnder_39 xK_113 (by decide) ?_
                first | exact o1 (by first | omega | (simp only [sA_same, sA_s, ud_s, Int.reduceEq, if_true, if_false, ite_true, ite_false, ↓reduceIte, and_true, true_and, eq_self, Int.add_zero, Int.reduceAdd]; omega) | (simp (disch := omega) only [sA_same, sA_ne, ud_eq, ud_ne, Int.add_zero, Int.reduceAdd]; omega)) | exact o2 (by first | omega | (simp only [sA_same, sA_s, ud_s, Int.reduceEq, if_true, if_false, ite_true, ite_false, ↓reduceIte, and_true, true_and, eq_self, Int.add_zero, Int.reduceAdd]; omega) | (simp (disch := omega) only [sA_same, sA_ne, ud_eq, ud_ne, Int.add_zero, Int.reduceAdd]; omega))
              · refine v_iconst (n := 35) xB_113 dX10_isKindOrUnder_34 ⟨by decide, by decide⟩ rfl ?_
                refine v_goto (t := 39) xB_113 dX10_isKindOrUnder_35 (by decide) rfl ?_
                refine v_ireturn1 xB_113 dX10_isKindOrUnder_39 xK_113 (by decide) ?_
                first | exact o1 (by first | omega | (simp only [sA_same, sA_s, ud_s, Int.reduceEq, if_true, if_false, ite_true, ite_false, ↓reduceIte, and_true, true_and, eq_self, Int.add_zero, Int.reduceAdd]; omega) | (simp (disch := omega) only [sA_same, sA_ne, ud_eq, ud_ne, Int.add_zero, Int.reduceAdd]; omega)) | exact o2 (by first | omega | (simp only [sA_same, sA_s, ud_s, Int.reduceEq, if_true, if_false, ite_true, ite_false, ↓reduceIte, and_true, true_and, eq_self, Int.add_zero, Int.reduceAdd]; omega) | (simp (disch := omega) only [sA_same, sA_ne, ud_eq, ud_ne, Int.add_zero, Int.reduceAdd]; omega))
            · refine v_gst_0 (n := 20) xB_113 dX10_isKindOrUnder_17 xO_113 gs_10_291 rfl ?_
              refine v_iload_n (n := 21) xB_113 dX10_isKindOrUnder_20 rfl rfl ?_
              refine v_iaload (n := 22) (lz := 7) xB_113 dX10_isKindOrUnder_21 (sh_ka _ _ _) rfl (by first | omega | (simp only [sA_same, sA_s, ud_s, Int.reduceEq, if_true, if_false, ite_true, ite_false, ↓reduceIte, and_true, true_and, eq_self, Int.add_zero, Int.reduceAdd]; omega) | (simp (disch := omega) only [sA_same, sA_ne, ud_eq, ud_ne, Int.add_zero, Int.reduceAdd]; omega)) rfl ?_
              (try simp only [K0, K1, K2, K3, K4, K5, K6])
              refine v_istore_n2 (n := 23) xB_113 dX10_isKindOrUnder_22 rfl rfl ?_
              refine v_iinc3 (n := 26) xB_113 dX10_isKindOrUnder_23 rfl (by first | omega | (simp only [sA_same, sA_s, ud_s, Int.reduceEq, if_true, if_false, ite_true, ite_false, ↓reduceIte, and_true, true_and, eq_self, Int.add_zero, Int.reduceAdd]; omega) | (simp (disch := omega) only [sA_same, sA_ne, ud_eq, ud_ne, Int.add_zero, Int.reduceAdd]; omega)) rfl ?_
              refine v_goto (t := 4) xB_113 dX10_isKindOrUnder_26 (by decide) rfl ?_
              refine v_iload_n (n := 5) xB_113 dX10_isKindOrUnder_4 rfl rfl ?_
              refine v_gst_0 (n := 8) xB_113 dX10_isKindOrUnder_5 xO_113 gs_10_291 rfl ?_
              refine v_alen (n := 9) (lz := 7) xB_113 dX10_isKindOrUnder_8 (sh_ka _ _ _) (by decide) rfl rfl ?_
              refine v_ic_ge_n (n := 12) xB_113 dX10_isKindOrUnder_9 (by decide) rfl (by decide) ?_
              refine v_iload_n (n := 13) xB_113 dX10_isKindOrUnder_12 rfl rfl ?_
              refine v_iload_n (n := 14) xB_113 dX10_isKindOrUnder_13 rfl rfl ?_
              refine v_ic_le (t := 29) (n := 17) xB_113 dX10_isKindOrUnder_14 (by decide) rfl rfl (fun g11 => ?_) (fun g11 => ?_)
              · refine v_iload_n (n := 30) xB_113 dX10_isKindOrUnder_29 rfl rfl ?_
                refine v_iload_n (n := 31) xB_113 dX10_isKindOrUnder_30 rfl rfl ?_
                refine v_ic_ne (t := 38) (n := 34) xB_113 dX10_isKindOrUnder_31 (by decide) rfl rfl (fun g12 => ?_) (fun g12 => ?_)
                · refine v_iconst (n := 39) xB_113 dX10_isKindOrUnder_38 ⟨by decide, by decide⟩ rfl ?_
                  refine v_ireturn1 xB_113 dX10_isKindOrUnder_39 xK_113 (by decide) ?_
                  first | exact o1 (by first | omega | (simp only [sA_same, sA_s, ud_s, Int.reduceEq, if_true, if_false, ite_true, ite_false, ↓reduceIte, and_true, true_and, eq_self, Int.add_zero, Int.reduceAdd]; omega) | (simp (disch := omega) only [sA_same, sA_ne, ud_eq, ud_ne, Int.add_zero, Int.reduceAdd]; omega)) | exact o2 (by first | omega | (simp only [sA_same, sA_s, ud_s, Int.reduceEq, if_true, if_false, ite_true, ite_false, ↓reduceIte, and_true, true_and, eq_self, Int.add_zero, Int.reduceAdd]; omega) | (simp (disch := omega) only [sA_same, sA_ne, ud_eq, ud_ne, Int.add_zero, Int.reduceAdd]; omega))
                · refine v_iconst (n := 35) xB_113 dX10_isKindOrUnder_34 ⟨by decide, by decide⟩ rfl ?_
                  refine v_goto (t := 39) xB_113 dX10_isKindOrUnder_35 (by decide) rfl ?_
                  refine v_ireturn1 xB_113 dX10_isKindOrUnder_39 xK_113 (by decide) ?_
                  first | exact o1 (by first | omega | (simp only [sA_same, sA_s, ud_s, Int.reduceEq, if_true, if_false, ite_true, ite_false, ↓reduceIte, and_true, true_and, eq_self, Int.add_zero, Int.reduceAdd]; omega) | (simp (disch := omega) only [sA_same, sA_ne, ud_eq, ud_ne, Int.add_zero, Int.reduceAdd]; omega)) | exact o2 (by first | omega | (simp only [sA_same, sA_s, ud_s, Int.reduceEq, if_true, if_false, ite_true, ite_false, ↓reduceIte, and_true, true_and, eq_self, Int.add_zero, Int.reduceAdd]; omega) | (simp (disch := omega) only [sA_same, sA_ne, ud_eq, ud_ne, Int.add_zero, Int.reduceAdd]; omega))
              · refine v_gst_0 (n := 20) xB_113 dX10_isKindOrUnder_17 xO_113 gs_10_291 rfl ?_
                refine v_iload_n (n := 21) xB_113 dX10_isKindOrUnder_20 rfl rfl ?_
                refine v_iaload (n := 22) (lz := 7) xB_113 dX10_isKindOrUnder_21 (sh_ka _ _ _) rfl (by first | omega | (simp only [sA_same, sA_s, ud_s, Int.reduceEq, if_true, if_false, ite_true, ite_false, ↓reduceIte, and_true, true_and, eq_self, Int.add_zero, Int.reduceAdd]; omega) | (simp (disch := omega) only [sA_same, sA_ne, ud_eq, ud_ne, Int.add_zero, Int.reduceAdd]; omega)) rfl ?_
                (try simp only [K0, K1, K2, K3, K4, K5, K6])
                refine v_istore_n2 (n := 23) xB_113 dX10_isKindOrUnder_22 rfl rfl ?_
                refine v_iinc3 (n := 26) xB_113 dX10_isKindOrUnder_23 rfl (by first | omega | (simp only [sA_same, sA_s, ud_s, Int.reduceEq, if_true, if_false, ite_true, ite_false, ↓reduceIte, and_true, true_and, eq_self, Int.add_zero, Int.reduceAdd]; omega) | (simp (disch := omega) only [sA_same, sA_ne, ud_eq, ud_ne, Int.add_zero, Int.reduceAdd]; omega)) rfl ?_
                refine v_goto (t := 4) xB_113 dX10_isKindOrUnder_26 (by decide) rfl ?_
                refine v_iload_n (n := 5) xB_113 dX10_isKindOrUnder_4 rfl rfl ?_
                refine v_gst_0 (n := 8) xB_113 dX10_isKindOrUnder_5 xO_113 gs_10_291 rfl ?_
                refine v_alen (n := 9) (lz := 7) xB_113 dX10_isKindOrUnder_8 (sh_ka _ _ _) (by decide) rfl rfl ?_
                refine v_ic_ge_n (n := 12) xB_113 dX10_isKindOrUnder_9 (by decide) rfl (by decide) ?_
                refine v_iload_n (n := 13) xB_113 dX10_isKindOrUnder_12 rfl rfl ?_
                refine v_iload_n (n := 14) xB_113 dX10_isKindOrUnder_13 rfl rfl ?_
                refine v_ic_le (t := 29) (n := 17) xB_113 dX10_isKindOrUnder_14 (by decide) rfl rfl (fun g13 => ?_) (fun g13 => ?_)
                · refine v_iload_n (n := 30) xB_113 dX10_isKindOrUnder_29 rfl rfl ?_
                  refine v_iload_n (n := 31) xB_113 dX10_isKindOrUnder_30 rfl rfl ?_
                  refine v_ic_ne (t := 38) (n := 34) xB_113 dX10_isKindOrUnder_31 (by decide) rfl rfl (fun g14 => ?_) (fun g14 => ?_)
                  · refine v_iconst (n := 39) xB_113 dX10_isKindOrUnder_38 ⟨by decide, by decide⟩ rfl ?_
                    refine v_ireturn1 xB_113 dX10_isKindOrUnder_39 xK_113 (by decide) ?_
                    first | exact o1 (by first | omega | (simp only [sA_same, sA_s, ud_s, Int.reduceEq, if_true, if_false, ite_true, ite_false, ↓reduceIte, and_true, true_and, eq_self, Int.add_zero, Int.reduceAdd]; omega) | (simp (disch := omega) only [sA_same, sA_ne, ud_eq, ud_ne, Int.add_zero, Int.reduceAdd]; omega)) | exact o2 (by first | omega | (simp only [sA_same, sA_s, ud_s, Int.reduceEq, if_true, if_false, ite_true, ite_false, ↓reduceIte, and_true, true_and, eq_self, Int.add_zero, Int.reduceAdd]; omega) | (simp (disch := omega) only [sA_same, sA_ne, ud_eq, ud_ne, Int.add_zero, Int.reduceAdd]; omega))
                  · refine v_iconst (n := 35) xB_113 dX10_isKindOrUnder_34 ⟨by decide, by decide⟩ rfl ?_
                    refine v_goto (t := 39) xB_113 dX10_isKindOrUnder_35 (by decide) rfl ?_
                    refine v_ireturn1 xB_113 dX10_isKindOrUnder_39 xK_113 (by decide) ?_
                    first | exact o1 (by first | omega | (simp only [sA_same, sA_s, ud_s, Int.reduceEq, if_true, if_false, ite_true, ite_false, ↓reduceIte, and_true, true_and, eq_self, Int.add_zero, Int.reduceAdd]; omega) | (simp (disch := omega) only [sA_same, sA_ne, ud_eq, ud_ne, Int.add_zero, Int.reduceAdd]; omega)) | exact o2 (by first | omega | (simp only [sA_same, sA_s, ud_s, Int.reduceEq, if_true, if_false, ite_true, ite_false, ↓reduceIte, and_true, true_and, eq_self, Int.add_zero, Int.reduceAdd]; omega) | (simp (disch := omega) only [sA_same, sA_ne, ud_eq, ud_ne, Int.add_zero, Int.reduceAdd]; omega))
                · refine v_gst_0 (n := 20) xB_113 dX10_isKindOrUnder_17 xO_113 gs_10_291 rfl ?_
                  refine v_iload_n (n := 21) xB_113 dX10_isKindOrUnder_20 rfl rfl ?_
                  refine v_iaload (n := 22) (lz := 7) xB_113 dX10_isKindOrUnder_21 (sh_ka _ _ _) rfl (by first | omega | (simp only [sA_same, sA_s, ud_s, Int.reduceEq, if_true, if_false, ite_true, ite_false, ↓reduceIte, and_true, true_and, eq_self, Int.add_zero, Int.reduceAdd]; omega) | (simp (disch := omega) only [sA_same, sA_ne, ud_eq, ud_ne, Int.add_zero, Int.reduceAdd]; omega)) rfl ?_
                  (try simp only [K0, K1, K2, K3, K4, K5, K6])
                  refine v_istore_n2 (n := 23) xB_113 dX10_isKindOrUnder_22 rfl rfl ?_
                  refine v_iinc3 (n := 26) xB_113 dX10_isKindOrUnder_23 rfl (by first | omega | (simp only [sA_same, sA_s, ud_s, Int.reduceEq, if_true, if_false, ite_true, ite_false, ↓reduceIte, and_true, true_and, eq_self, Int.add_zero, Int.reduceAdd]; omega) | (simp (disch := omega) only [sA_same, sA_ne, ud_eq, ud_ne, Int.add_zero, Int.reduceAdd]; omega)) rfl ?_
                  refine v_goto (t := 4) xB_113 dX10_isKindOrUnder_26 (by decide) rfl ?_
                  refine v_iload_n (n := 5) xB_113 dX10_isKindOrUnder_4 rfl rfl ?_
                  refine v_gst_0 (n := 8) xB_113 dX10_isKindOrUnder_5 xO_113 gs_10_291 rfl ?_
                  refine v_alen (n := 9) (lz := 7) xB_113 dX10_isKindOrUnder_8 (sh_ka _ _ _) (by decide) rfl rfl ?_
                  refine v_ic_ge_y (t := 29) xB_113 dX10_isKindOrUnder_9 (by decide) rfl (by decide) ?_
                  refine v_iload_n (n := 30) xB_113 dX10_isKindOrUnder_29 rfl rfl ?_
                  refine v_iload_n (n := 31) xB_113 dX10_isKindOrUnder_30 rfl rfl ?_
                  refine v_ic_ne (t := 38) (n := 34) xB_113 dX10_isKindOrUnder_31 (by decide) rfl rfl (fun g15 => ?_) (fun g15 => ?_)
                  · refine v_iconst (n := 39) xB_113 dX10_isKindOrUnder_38 ⟨by decide, by decide⟩ rfl ?_
                    refine v_ireturn1 xB_113 dX10_isKindOrUnder_39 xK_113 (by decide) ?_
                    first | exact o1 (by first | omega | (simp only [sA_same, sA_s, ud_s, Int.reduceEq, if_true, if_false, ite_true, ite_false, ↓reduceIte, and_true, true_and, eq_self, Int.add_zero, Int.reduceAdd]; omega) | (simp (disch := omega) only [sA_same, sA_ne, ud_eq, ud_ne, Int.add_zero, Int.reduceAdd]; omega)) | exact o2 (by first | omega | (simp only [sA_same, sA_s, ud_s, Int.reduceEq, if_true, if_false, ite_true, ite_false, ↓reduceIte, and_true, true_and, eq_self, Int.add_zero, Int.reduceAdd]; omega) | (simp (disch := omega) only [sA_same, sA_ne, ud_eq, ud_ne, Int.add_zero, Int.reduceAdd]; omega))
                  · refine v_iconst (n := 35) xB_113 dX10_isKindOrUnder_34 ⟨by decide, by decide⟩ rfl ?_
                    refine v_goto (t := 39) xB_113 dX10_isKindOrUnder_35 (by decide) rfl ?_
                    refine v_ireturn1 xB_113 dX10_isKindOrUnder_39 xK_113 (by decide) ?_
                    first | exact o1 (by first | omega | (simp only [sA_same, sA_s, ud_s, Int.reduceEq, if_true, if_false, ite_true, ite_false, ↓reduceIte, and_true, true_and, eq_self, Int.add_zero, Int.reduceAdd]; omega) | (simp (disch := omega) only [sA_same, sA_ne, ud_eq, ud_ne, Int.add_zero, Int.reduceAdd]; omega)) | exact o2 (by first | omega | (simp only [sA_same, sA_s, ud_s, Int.reduceEq, if_true, if_false, ite_true, ite_false, ↓reduceIte, and_true, true_and, eq_self, Int.add_zero, Int.reduceAdd]; omega) | (simp (disch := omega) only [sA_same, sA_ne, ud_eq, ud_ne, Int.add_zero, Int.reduceAdd]; omega))
  · subst hx
    refine v_iload_n (n := 1) xB_113 dX10_isKindOrUnder_0 rfl rfl ?_
    refine v_istore_n2 (n := 2) xB_113 dX10_isKindOrUnder_1 rfl rfl ?_
    refine v_iconst (n := 3) xB_113 dX10_isKindOrUnder_2 ⟨by decide, by decide⟩ rfl ?_
    refine v_istore_n3 (n := 4) xB_113 dX10_isKindOrUnder_3 rfl rfl ?_
    refine v_iload_n (n := 5) xB_113 dX10_isKindOrUnder_4 rfl rfl ?_
    refine v_gst_0 (n := 8) xB_113 dX10_isKindOrUnder_5 xO_113 gs_10_291 rfl ?_
    refine v_alen (n := 9) (lz := 7) xB_113 dX10_isKindOrUnder_8 (sh_ka _ _ _) (by decide) rfl rfl ?_
    refine v_ic_ge_n (n := 12) xB_113 dX10_isKindOrUnder_9 (by decide) rfl (by decide) ?_
    refine v_iload_n (n := 13) xB_113 dX10_isKindOrUnder_12 rfl rfl ?_
    refine v_iload_n (n := 14) xB_113 dX10_isKindOrUnder_13 rfl rfl ?_
    refine v_ic_le (t := 29) (n := 17) xB_113 dX10_isKindOrUnder_14 (by decide) rfl rfl (fun g1 => ?_) (fun g1 => ?_)
    · refine v_iload_n (n := 30) xB_113 dX10_isKindOrUnder_29 rfl rfl ?_
      refine v_iload_n (n := 31) xB_113 dX10_isKindOrUnder_30 rfl rfl ?_
      refine v_ic_ne (t := 38) (n := 34) xB_113 dX10_isKindOrUnder_31 (by decide) rfl rfl (fun g2 => ?_) (fun g2 => ?_)
      · refine v_iconst (n := 39) xB_113 dX10_isKindOrUnder_38 ⟨by decide, by decide⟩ rfl ?_
        refine v_ireturn1 xB_113 dX10_isKindOrUnder_39 xK_113 (by decide) ?_
        first | exact o1 (by first | omega | (simp only [sA_same, sA_s, ud_s, Int.reduceEq, if_true, if_false, ite_true, ite_false, ↓reduceIte, and_true, true_and, eq_self, Int.add_zero, Int.reduceAdd]; omega) | (simp (disch := omega) only [sA_same, sA_ne, ud_eq, ud_ne, Int.add_zero, Int.reduceAdd]; omega)) | exact o2 (by first | omega | (simp only [sA_same, sA_s, ud_s, Int.reduceEq, if_true, if_false, ite_true, ite_false, ↓reduceIte, and_true, true_and, eq_self, Int.add_zero, Int.reduceAdd]; omega) | (simp (disch := omega) only [sA_same, sA_ne, ud_eq, ud_ne, Int.add_zero, Int.reduceAdd]; omega))
      · refine v_iconst (n := 35) xB_113 dX10_isKindOrUnder_34 ⟨by decide, by decide⟩ rfl ?_
        refine v_goto (t := 39) xB_113 dX10_isKindOrUnder_35 (by decide) rfl ?_
        refine v_ireturn1 xB_113 dX10_isKindOrUnder_39 xK_113 (by decide) ?_
        first | exact o1 (by first | omega | (simp only [sA_same, sA_s, ud_s, Int.reduceEq, if_true, if_false, ite_true, ite_false, ↓reduceIte, and_true, true_and, eq_self, Int.add_zero, Int.reduceAdd]; omega) | (simp (disch := omega) only [sA_same, sA_ne, ud_eq, ud_ne, Int.add_zero, Int.reduceAdd]; omega)) | exact o2 (by first | omega | (simp only [sA_same, sA_s, ud_s, Int.reduceEq, if_true, if_false, ite_true, ite_false, ↓reduceIte, and_true, true_and, eq_self, Int.add_zero, Int.reduceAdd]; omega) | (simp (disch := omega) only [sA_same, sA_ne, ud_eq, ud_ne, Int.add_zero, Int.reduceAdd]; omega))
    · refine v_gst_0 (n := 20) xB_113 dX10_isKindOrUnder_17 xO_113 gs_10_291 rfl ?_
      refine v_iload_n (n := 21) xB_113 dX10_isKindOrUnder_20 rfl rfl ?_
      refine v_iaload (n := 22) (lz := 7) xB_113 dX10_isKindOrUnder_21 (sh_ka _ _ _) rfl (by first | omega | (simp only [sA_same, sA_s, ud_s, Int.reduceEq, if_true, if_false, ite_true, ite_false, ↓reduceIte, and_true, true_and, eq_self, Int.add_zero, Int.reduceAdd]; omega) | (simp (disch := omega) only [sA_same, sA_ne, ud_eq, ud_ne, Int.add_zero, Int.reduceAdd]; omega)) rfl ?_
      (try simp only [K0, K1, K2, K3, K4, K5, K6])
      refine v_istore_n2 (n := 23) xB_113 dX10_isKindOrUnder_22 rfl rfl ?_
      refine v_iinc3 (n := 26) xB_113 dX10_isKindOrUnder_23 rfl (by first | omega | (simp only [sA_same, sA_s, ud_s, Int.reduceEq, if_true, if_false, ite_true, ite_false, ↓reduceIte, and_true, true_and, eq_self, Int.add_zero, Int.reduceAdd]; omega) | (simp (disch := omega) only [sA_same, sA_ne, ud_eq, ud_ne, Int.add_zero, Int.reduceAdd]; omega)) rfl ?_
      refine v_goto (t := 4) xB_113 dX10_isKindOrUnder_26 (by decide) rfl ?_
      refine v_iload_n (n := 5) xB_113 dX10_isKindOrUnder_4 rfl rfl ?_
      refine v_gst_0 (n := 8) xB_113 dX10_isKindOrUnder_5 xO_113 gs_10_291 rfl ?_
      refine v_alen (n := 9) (lz := 7) xB_113 dX10_isKindOrUnder_8 (sh_ka _ _ _) (by decide) rfl rfl ?_
      refine v_ic_ge_n (n := 12) xB_113 dX10_isKindOrUnder_9 (by decide) rfl (by decide) ?_
      refine v_iload_n (n := 13) xB_113 dX10_isKindOrUnder_12 rfl rfl ?_
      refine v_iload_n (n := 14) xB_113 dX10_isKindOrUnder_13 rfl rfl ?_
      refine v_ic_le (t := 29) (n := 17) xB_113 dX10_isKindOrUnder_14 (by decide) rfl rfl (fun g3 => ?_) (fun g3 => ?_)
      · refine v_iload_n (n := 30) xB_113 dX10_isKindOrUnder_29 rfl rfl ?_
        refine v_iload_n (n := 31) xB_113 dX10_isKindOrUnder_30 rfl rfl ?_
        refine v_ic_ne (t := 38) (n := 34) xB_113 dX10_isKindOrUnder_31 (by decide) rfl rfl (fun g4 => ?_) (fun g4 => ?_)
        · refine v_iconst (n := 39) xB_113 dX10_isKindOrUnder_38 ⟨by decide, by decide⟩ rfl ?_
          refine v_ireturn1 xB_113 dX10_isKindOrUnder_39 xK_113 (by decide) ?_
          first | exact o1 (by first | omega | (simp only [sA_same, sA_s, ud_s, Int.reduceEq, if_true, if_false, ite_true, ite_false, ↓reduceIte, and_true, true_and, eq_self, Int.add_zero, Int.reduceAdd]; omega) | (simp (disch := omega) only [sA_same, sA_ne, ud_eq, ud_ne, Int.add_zero, Int.reduceAdd]; omega)) | exact o2 (by first | omega | (simp only [sA_same, sA_s, ud_s, Int.reduceEq, if_true, if_false, ite_true, ite_false, ↓reduceIte, and_true, true_and, eq_self, Int.add_zero, Int.reduceAdd]; omega) | (simp (disch := omega) only [sA_same, sA_ne, ud_eq, ud_ne, Int.add_zero, Int.reduceAdd]; omega))
        · refine v_iconst (n := 35) xB_113 dX10_isKindOrUnder_34 ⟨by decide, by decide⟩ rfl ?_
          refine v_goto (t := 39) xB_113 dX10_isKindOrUnder_35 (by decide) rfl ?_
          refine v_ireturn1 xB_113 dX10_isKindOrUnder_39 xK_113 (by decide) ?_
          first | exact o1 (by first | omega | (simp only [sA_same, sA_s, ud_s, Int.reduceEq, if_true, if_false, ite_true, ite_false, ↓reduceIte, and_true, true_and, eq_self, Int.add_zero, Int.reduceAdd]; omega) | (simp (disch := omega) only [sA_same, sA_ne, ud_eq, ud_ne, Int.add_zero, Int.reduceAdd]; omega)) | exact o2 (by first | omega | (simp only [sA_same, sA_s, ud_s, Int.reduceEq, if_true, if_false, ite_true, ite_false, ↓reduceIte, and_true, true_and, eq_self, Int.add_zero, Int.reduceAdd]; omega) | (simp (disch := omega) only [sA_same, sA_ne, ud_eq, ud_ne, Int.add_zero, Int.reduceAdd]; omega))
      · refine v_gst_0 (n := 20) xB_113 dX10_isKindOrUnder_17 xO_113 gs_10_291 rfl ?_
        refine v_iload_n (n := 21) xB_113 dX10_isKindOrUnder_20 rfl rfl ?_
        refine v_iaload (n := 22) (lz := 7) xB_113 dX10_isKindOrUnder_21 (sh_ka _ _ _) rfl (by first | omega | (simp only [sA_same, sA_s, ud_s, Int.reduceEq, if_true, if_false, ite_true, ite_false, ↓reduceIte, and_true, true_and, eq_self, Int.add_zero, Int.reduceAdd]; omega) | (simp (disch := omega) only [sA_same, sA_ne, ud_eq, ud_ne, Int.add_zero, Int.reduceAdd]; omega)) rfl ?_
        (try simp only [K0, K1, K2, K3, K4, K5, K6])
        refine v_istore_n2 (n := 23) xB_113 dX10_isKindOrUnder_22 rfl rfl ?_
        refine v_iinc3 (n := 26) xB_113 dX10_isKindOrUnder_23 rfl (by first | omega | (simp only [sA_same, sA_s, ud_s, Int.reduceEq, if_true, if_false, ite_true, ite_false, ↓reduceIte, and_true, true_and, eq_self, Int.add_zero, Int.reduceAdd]; omega) | (simp (disch := omega) only [sA_same, sA_ne, ud_eq, ud_ne, Int.add_zero, Int.reduceAdd]; omega)) rfl ?_
        refine v_goto (t := 4) xB_113 dX10_isKindOrUnder_26 (by decide) rfl ?_
        refine v_iload_n (n := 5) xB_113 dX10_isKindOrUnder_4 rfl rfl ?_
        refine v_gst_0 (n := 8) xB_113 dX10_isKindOrUnder_5 xO_113 gs_10_291 rfl ?_
        refine v_alen (n := 9) (lz := 7) xB_113 dX10_isKindOrUnder_8 (sh_ka _ _ _) (by decide) rfl rfl ?_
        refine v_ic_ge_n (n := 12) xB_113 dX10_isKindOrUnder_9 (by decide) rfl (by decide) ?_
        refine v_iload_n (n := 13) xB_113 dX10_isKindOrUnder_12 rfl rfl ?_
        refine v_iload_n (n := 14) xB_113 dX10_isKindOrUnder_13 rfl rfl ?_
        refine v_ic_le (t := 29) (n := 17) xB_113 dX10_isKindOrUnder_14 (by decide) rfl rfl (fun g5 => ?_) (fun g5 => ?_)
        · refine v_iload_n (n := 30) xB_113 dX10_isKindOrUnder_29 rfl rfl ?_
          refine v_iload_n (n := 31) xB_113 dX10_isKindOrUnder_30 rfl rfl ?_
          refine v_ic_ne (t := 38) (n := 34) xB_113 dX10_isKindOrUnder_31 (by decide) rfl rfl (fun g6 => ?_) (fun g6 => ?_)
          · refine v_iconst (n := 39) xB_113 dX10_isKindOrUnder_38 ⟨by decide, by decide⟩ rfl ?_
            refine v_ireturn1 xB_113 dX10_isKindOrUnder_39 xK_113 (by decide) ?_
            first | exact o1 (by first | omega | (simp only [sA_same, sA_s, ud_s, Int.reduceEq, if_true, if_false, ite_true, ite_false, ↓reduceIte, and_true, true_and, eq_self, Int.add_zero, Int.reduceAdd]; omega) | (simp (disch := omega) only [sA_same, sA_ne, ud_eq, ud_ne, Int.add_zero, Int.reduceAdd]; omega)) | exact o2 (by first | omega | (simp only [sA_same, sA_s, ud_s, Int.reduceEq, if_true, if_false, ite_true, ite_false, ↓reduceIte, and_true, true_and, eq_self, Int.add_zero, Int.reduceAdd]; omega) | (simp (disch := omega) only [sA_same, sA_ne, ud_eq, ud_ne, Int.add_zero, Int.reduceAdd]; omega))
          · refine v_iconst (n := 35) xB_113 dX10_isKindOrUnder_34 ⟨by decide, by decide⟩ rfl ?_
            refine v_goto (t := 39) xB_113 dX10_isKindOrUnder_35 (by decide) rfl ?_
            refine v_ireturn1 xB_113 dX10_isKindOrUnder_39 xK_113 (by decide) ?_
            first | exact o1 (by first | omega | (simp only [sA_same, sA_s, ud_s, Int.reduceEq, if_true, if_false, ite_true, ite_false, ↓reduceIte, and_true, true_and, eq_self, Int.add_zero, Int.reduceAdd]; omega) | (simp (disch := omega) only [sA_same, sA_ne, ud_eq, ud_ne, Int.add_zero, Int.reduceAdd]; omega)) | exact o2 (by first | omega | (simp only [sA_same, sA_s, ud_s, Int.reduceEq, if_true, if_false, ite_true, ite_false, ↓reduceIte, and_true, true_and, eq_self, Int.add_zero, Int.reduceAdd]; omega) | (simp (disch := omega) only [sA_same, sA_ne, ud_eq, ud_ne, Int.add_zero, Int.reduceAdd]; omega))
        · refine v_gst_0 (n := 20) xB_113 dX10_isKindOrUnder_17 xO_113 gs_10_291 rfl ?_
          refine v_iload_n (n := 21) xB_113 dX10_isKindOrUnder_20 rfl rfl ?_
          refine v_iaload (n := 22) (lz := 7) xB_113 dX10_isKindOrUnder_21 (sh_ka _ _ _) rfl (by first | omega | (simp only [sA_same, sA_s, ud_s, Int.reduceEq, if_true, if_false, ite_true, ite_false, ↓reduceIte, and_true, true_and, eq_self, Int.add_zero, Int.reduceAdd]; omega) | (simp (disch := omega) only [sA_same, sA_ne, ud_eq, ud_ne, Int.add_zero, Int.reduceAdd]; omega)) rfl ?_
          (try simp only [K0, K1, K2, K3, K4, K5, K6])
          refine v_istore_n2 (n := 23) xB_113 dX10_isKindOrUnder_22 rfl rfl ?_
          refine v_iinc3 (n := 26) xB_113 dX10_isKindOrUnder_23 rfl (by first | omega | (simp only [sA_same, sA_s, ud_s, Int.reduceEq, if_true, if_false, ite_true, ite_false, ↓reduceIte, and_true, true_and, eq_self, Int.add_zero, Int.reduceAdd]; omega) | (simp (disch := omega) only [sA_same, sA_ne, ud_eq, ud_ne, Int.add_zero, Int.reduceAdd]; omega)) rfl ?_
          refine v_goto (t := 4) xB_113 dX10_isKindOrUnder_26 (by decide) rfl ?_
          refine v_iload_n (n := 5) xB_113 dX10_isKindOrUnder_4 rfl rfl ?_
          refine v_gst_0 (n := 8) xB_113 dX10_isKindOrUnder_5 xO_113 gs_10_291 rfl ?_
          refine v_alen (n := 9) (lz := 7) xB_113 dX10_isKindOrUnder_8 (sh_ka _ _ _) (by decide) rfl rfl ?_
          refine v_ic_ge_n (n := 12) xB_113 dX10_isKindOrUnder_9 (by decide) rfl (by decide) ?_
          refine v_iload_n (n := 13) xB_113 dX10_isKindOrUnder_12 rfl rfl ?_
          refine v_iload_n (n := 14) xB_113 dX10_isKindOrUnder_13 rfl rfl ?_
          refine v_ic_le (t := 29) (n := 17) xB_113 dX10_isKindOrUnder_14 (by decide) rfl rfl (fun g7 => ?_) (fun g7 => ?_)
          · refine v_iload_n (n := 30) xB_113 dX10_isKindOrUnder_29 rfl rfl ?_
            refine v_iload_n (n := 31) xB_113 dX10_isKindOrUnder_30 rfl rfl ?_
            refine v_ic_ne (t := 38) (n := 34) xB_113 dX10_isKindOrUnder_31 (by decide) rfl rfl (fun g8 => ?_) (fun g8 => ?_)
            · refine v_iconst (n := 39) xB_113 dX10_isKindOrUnder_38 ⟨by decide, by decide⟩ rfl ?_
              refine v_ireturn1 xB_113 dX10_isKindOrUnder_39 xK_113 (by decide) ?_
              first | exact o1 (by first | omega | (simp only [sA_same, sA_s, ud_s, Int.reduceEq, if_true, if_false, ite_true, ite_false, ↓reduceIte, and_true, true_and, eq_self, Int.add_zero, Int.reduceAdd]; omega) | (simp (disch := omega) only [sA_same, sA_ne, ud_eq, ud_ne, Int.add_zero, Int.reduceAdd]; omega)) | exact o2 (by first | omega | (simp only [sA_same, sA_s, ud_s, Int.reduceEq, if_true, if_false, ite_true, ite_false, ↓reduceIte, and_true, true_and, eq_self, Int.add_zero, Int.reduceAdd]; omega) | (simp (disch := omega) only [sA_same, sA_ne, ud_eq, ud_ne, Int.add_zero, Int.reduceAdd]; omega))
            · refine v_iconst (n := 35) xB_113 dX10_isKindOrUnder_34 ⟨by decide, by decide⟩ rfl ?_
              refine v_goto (t := 39) xB_113 dX10_isKindOrUnder_35 (by decide) rfl ?_
              refine v_ireturn1 xB_113 dX10_isKindOrUnder_39 xK_113 (by decide) ?_
              first | exact o1 (by first | omega | (simp only [sA_same, sA_s, ud_s, Int.reduceEq, if_true, if_false, ite_true, ite_false, ↓reduceIte, and_true, true_and, eq_self, Int.add_zero, Int.reduceAdd]; omega) | (simp (disch := omega) only [sA_same, sA_ne, ud_eq, ud_ne, Int.add_zero, Int.reduceAdd]; omega)) | exact o2 (by first | omega | (simp only [sA_same, sA_s, ud_s, Int.reduceEq, if_true, if_false, ite_true, ite_false, ↓reduceIte, and_true, true_and, eq_self, Int.add_zero, Int.reduceAdd]; omega) | (simp (disch := omega) only [sA_same, sA_ne, ud_eq, ud_ne, Int.add_zero, Int.reduceAdd]; omega))
          · refine v_gst_0 (n := 20) xB_113 dX10_isKindOrUnder_17 xO_113 gs_10_291 rfl ?_
            refine v_iload_n (n := 21) xB_113 dX10_isKindOrUnder_20 rfl rfl ?_
            refine v_iaload (n := 22) (lz := 7) xB_113 dX10_isKindOrUnder_21 (sh_ka _ _ _) rfl (by first | omega | (simp only [sA_same, sA_s, ud_s, Int.reduceEq, if_true, if_false, ite_true, ite_false, ↓reduceIte, and_true, true_and, eq_self, Int.add_zero, Int.reduceAdd]; omega) | (simp (disch := omega) only [sA_same, sA_ne, ud_eq, ud_ne, Int.add_zero, Int.reduceAdd]; omega)) rfl ?_
            (try simp only [K0, K1, K2, K3, K4, K5, K6])
            refine v_istore_n2 (n := 23) xB_113 dX10_isKindOrUnder_22 rfl rfl ?_
            refine v_iinc3 (n := 26) xB_113 dX10_isKindOrUnder_23 rfl (by first | omega | (simp only [sA_same, sA_s, ud_s, Int.reduceEq, if_true, if_false, ite_true, ite_false, ↓reduceIte, and_true, true_and, eq_self, Int.add_zero, Int.reduceAdd]; omega) | (simp (disch := omega) only [sA_same, sA_ne, ud_eq, ud_ne, Int.add_zero, Int.reduceAdd]; omega)) rfl ?_
            refine v_goto (t := 4) xB_113 dX10_isKindOrUnder_26 (by decide) rfl ?_
            refine v_iload_n (n := 5) xB_113 dX10_isKindOrUnder_4 rfl rfl ?_
            refine v_gst_0 (n := 8) xB_113 dX10_isKindOrUnder_5 xO_113 gs_10_291 rfl ?_
            refine v_alen (n := 9) (lz := 7) xB_113 dX10_isKindOrUnder_8 (sh_ka _ _ _) (by decide) rfl rfl ?_
            refine v_ic_ge_n (n := 12) xB_113 dX10_isKindOrUnder_9 (by decide) rfl (by decide) ?_
            refine v_iload_n (n := 13) xB_113 dX10_isKindOrUnder_12 rfl rfl ?_
            refine v_iload_n (n := 14) xB_113 dX10_isKindOrUnder_13 rfl rfl ?_
            refine v_ic_le (t := 29) (n := 17) xB_113 dX10_isKindOrUnder_14 (by decide) rfl rfl (fun g9 => ?_) (fun g9 => ?_)
            · refine v_iload_n (n := 30) xB_113 dX10_isKindOrUnder_29 rfl rfl ?_
              refine v_iload_n (n := 31) xB_113 dX10_isKindOrUnder_30 rfl rfl ?_
              refine v_ic_ne (t := 38) (n := 34) xB_113 dX10_isKindOrUnder_31 (by decide) rfl rfl (fun g10 => ?_) (fun g10 => ?_)
              · refine v_iconst (n := 39) xB_113 dX10_isKindOrUnder_38 ⟨by decide, by decide⟩ rfl ?_
                refine v_ireturn1 xB_113 dX10_isKindOrUnder_39 xK_113 (by decide) ?_
                first | exact o1 (by first | omega | (simp only [sA_same, sA_s, ud_s, Int.reduceEq, if_true, if_false, ite_true, ite_false, ↓reduceIte, and_true, true_and, eq_self, Int.add_zero, Int.reduceAdd]; omega) | (simp (disch := omega) only [sA_same, sA_ne, ud_eq, ud_ne, Int.add_zero, Int.reduceAdd]; omega)) | exact o2 (by first | omega | (simp only [sA_same, sA_s, ud_s, Int.reduceEq, if_true, if_false, ite_true, ite_false, ↓reduceIte, and_true, true_and, eq_self, Int.add_zero, Int.reduceAdd]; omega) | (simp (disch := omega) only [sA_same, sA_ne, ud_eq, ud_ne, Int.add_zero, Int.reduceAdd]; omega))
              · refine v_iconst (n := 35) xB_113 dX10_isKindOrUnder_34 ⟨by decide, by decide⟩ rfl ?_
                refine v_goto (t := 39) xB_113 dX10_isKindOrUnder_35 (by decide) rfl ?_
                refine v_ireturn1 xB_113 dX10_isKindOrUnder_39 xK_113 (by decide) ?_
                first | exact o1 (by first | omega | (simp only [sA_same, sA_s, ud_s, Int.reduceEq, if_true, if_false, ite_true, ite_false, ↓reduceIte, and_true, true_and, eq_self, Int.add_zero, Int.reduceAdd]; omega) | (simp (disch := omega) only [sA_same, sA_ne, ud_eq, ud_ne, Int.add_zero, Int.reduceAdd]; omega)) | exact o2 (by first | omega | (simp only [sA_same, sA_s, ud_s, Int.reduceEq, if_true, if_false, ite_true, ite_false, ↓reduceIte, and_true, true_and, eq_self, Int.add_zero, Int.reduceAdd]; omega) | (simp (disch := omega) only [sA_same, sA_ne, ud_eq, ud_ne, Int.add_zero, Int.reduceAdd]; omega))
            · refine v_gst_0 (n := 20) xB_113 dX10_isKindOrUnder_17 xO_113 gs_10_291 rfl ?_
              refine v_iload_n (n := 21) xB_113 dX10_isKindOrUnder_20 rfl rfl ?_
              refine v_iaload (n := 22) (lz := 7) xB_113 dX10_isKindOrUnder_21 (sh_ka _ _ _) rfl (by first | omega | (simp only [sA_same, sA_s, ud_s, Int.reduceEq, if_true, if_false, ite_true, ite_false, ↓reduceIte, and_true, true_and, eq_self, Int.add_zero, Int.reduceAdd]; omega) | (simp (disch := omega) only [sA_same, sA_ne, ud_eq, ud_ne, Int.add_zero, Int.reduceAdd]; omega)) rfl ?_
              (try simp only [K0, K1, K2, K3, K4, K5, K6])
              refine v_istore_n2 (n := 23) xB_113 dX10_isKindOrUnder_22 rfl rfl ?_
              refine v_iinc3 (n := 26) xB_113 dX10_isKindOrUnder_23 rfl (by first | omega | (simp only [sA_same, sA_s, ud_s, Int.reduceEq, if_true, if_false, ite_true, ite_false, ↓reduceIte, and_true, true_and, eq_self, Int.add_zero, Int.reduceAdd]; omega) | (simp (disch := omega) only [sA_same, sA_ne, ud_eq, ud_ne, Int.add_zero, Int.reduceAdd]; omega)) rfl ?_
              refine v_goto (t := 4) xB_113 dX10_isKindOrUnder_26 (by decide) rfl ?_
              refine v_iload_n (n := 5) xB_113 dX10_isKindOrUnder_4 rfl rfl ?_
              refine v_gst_0 (n := 8) xB_113 dX10_isKindOrUnder_5 xO_113 gs_10_291 rfl ?_
              refine v_alen (n := 9) (lz := 7) xB_113 dX10_isKindOrUnder_8 (sh_ka _ _ _) (by decide) rfl rfl ?_
              refine v_ic_ge_n (n := 12) xB_113 dX10_isKindOrUnder_9 (by decide) rfl (by decide) ?_
              refine v_iload_n (n := 13) xB_113 dX10_isKindOrUnder_12 rfl rfl ?_
              refine v_iload_n (n := 14) xB_113 dX10_isKindOrUnder_13 rfl rfl ?_
              refine v_ic_le (t := 29) (n := 17) xB_113 dX10_isKindOrUnder_14 (by decide) rfl rfl (fun g11 => ?_) (fun g11 => ?_)
              · refine v_iload_n (n := 30) xB_113 dX10_isKindOrUnder_29 rfl rfl ?_
                refine v_iload_n (n := 31) xB_113 dX10_isKindOrUnder_30 rfl rfl ?_
                refine v_ic_ne (t := 38) (n := 34) xB_113 dX10_isKindOrUnder_31 (by decide) rfl rfl (fun g12 => ?_) (fun g12 => ?_)
                · refine v_iconst (n := 39) xB_113 dX10_isKindOrUnder_38 ⟨by decide, by decide⟩ rfl ?_
                  refine v_ireturn1 xB_113 dX10_isKindOrUnder_39 xK_113 (by decide) ?_
                  first | exact o1 (by first | omega | (simp only [sA_same, sA_s, ud_s, Int.reduceEq, if_true, if_false, ite_true, ite_false, ↓reduceIte, and_true, true_and, eq_self, Int.add_zero, Int.reduceAdd]; omega) | (simp (disch := omega) only [sA_same, sA_ne, ud_eq, ud_ne, Int.add_zero, Int.reduceAdd]; omega)) | exact o2 (by first | omega | (simp only [sA_same, sA_s, ud_s, Int.reduceEq, if_true, if_false, ite_true, ite_false, ↓reduceIte, and_true, true_and, eq_self, Int.add_zero, Int.reduceAdd]; omega) | (simp (disch := omega) only [sA_same, sA_ne, ud_eq, ud_ne, Int.add_zero, Int.reduceAdd]; omega))
                · refine v_iconst (n := 35) xB_113 dX10_isKindOrUnder_34 ⟨by decide, by decide⟩ rfl ?_
                  refine v_goto (t := 39) xB_113 dX10_isKindOrUnder_35 (by decide) rfl ?_
                  refine v_ireturn1 xB_113 dX10_isKindOrUnder_39 xK_113 (by decide) ?_
                  first | exact o1 (by first | omega | (simp only [sA_same, sA_s, ud_s, Int.reduceEq, if_true, if_false, ite_true, ite_false, ↓reduceIte, and_true, true_and, eq_self, Int.add_zero, Int.reduceAdd]; omega) | (simp (disch := omega) only [sA_same, sA_ne, ud_eq, ud_ne, Int.add_zero, Int.reduceAdd]; omega)) | exact o2 (by first | omega | (simp only [sA_same, sA_s, ud_s, Int.reduceEq, if_true, if_false, ite_true, ite_false, ↓reduceIte, and_true, true_and, eq_self, Int.add_zero, Int.reduceAdd]; omega) | (simp (disch := omega) only [sA_same, sA_ne, ud_eq, ud_ne, Int.add_zero, Int.reduceAdd]; omega))
              · refine v_gst_0 (n := 20) xB_113 dX10_isKindOrUnder_17 xO_113 gs_10_291 rfl ?_
                refine v_iload_n (n := 21) xB_113 dX10_isKindOrUnder_20 rfl rfl ?_
                refine v_iaload (n := 22) (lz := 7) xB_113 dX10_isKindOrUnder_21 (sh_ka _ _ _) rfl (by first | omega | (simp only [sA_same, sA_s, ud_s, Int.reduceEq, if_true, if_false, ite_true, ite_false, ↓reduceIte, and_true, true_and, eq_self, Int.add_zero, Int.reduceAdd]; omega) | (simp (disch := omega) only [sA_same, sA_ne, ud_eq, ud_ne, Int.add_zero, Int.reduceAdd]; omega)) rfl ?_
                (try simp only [K0, K1, K2, K3, K4, K5, K6])
                refine v_istore_n2 (n := 23) xB_113 dX10_isKindOrUnder_22 rfl rfl ?_
                refine v_iinc3 (n := 26) xB_113 dX10_isKindOrUnder_23 rfl (by first | omega | (simp only [sA_same, sA_s, ud_s, Int.reduceEq, if_true, if_false, ite_true, ite_false, ↓reduceIte, and_true, true_and, eq_self, Int.add_zero, Int.reduceAdd]; omega) | (simp (disch := omega) only [sA_same, sA_ne, ud_eq, ud_ne, Int.add_zero, Int.reduceAdd]; omega)) rfl ?_
                refine v_goto (t := 4) xB_113 dX10_isKindOrUnder_26 (by decide) rfl ?_
                refine v_iload_n (n := 5) xB_113 dX10_isKindOrUnder_4 rfl rfl ?_
                refine v_gst_0 (n := 8) xB_113 dX10_isKindOrUnder_5 xO_113 gs_10_291 rfl ?_
                refine v_alen (n := 9) (lz := 7) xB_113 dX10_isKindOrUnder_8 (sh_ka _ _ _) (by decide) rfl rfl ?_
                refine v_ic_ge_n (n := 12) xB_113 dX10_isKindOrUnder_9 (by decide) rfl (by decide) ?_
                refine v_iload_n (n := 13) xB_113 dX10_isKindOrUnder_12 rfl rfl ?_
                refine v_iload_n (n := 14) xB_113 dX10_isKindOrUnder_13 rfl rfl ?_
                refine v_ic_le (t := 29) (n := 17) xB_113 dX10_isKindOrUnder_14 (by decide) rfl rfl (fun g13 => ?_) (fun g13 => ?_)
                · refine v_iload_n (n := 30) xB_113 dX10_isKindOrUnder_29 rfl rfl ?_
                  refine v_iload_n (n := 31) xB_113 dX10_isKindOrUnder_30 rfl rfl ?_
                  refine v_ic_ne (t := 38) (n := 34) xB_113 dX10_isKindOrUnder_31 (by decide) rfl rfl (fun g14 => ?_) (fun g14 => ?_)
                  · refine v_iconst (n := 39) xB_113 dX10_isKindOrUnder_38 ⟨by decide, by decide⟩ rfl ?_
                    refine v_ireturn1 xB_113 dX10_isKindOrUnder_39 xK_113 (by decide) ?_
                    first | exact o1 (by first | omega | (simp only [sA_same, sA_s, ud_s, Int.reduceEq, if_true, if_false, ite_true, ite_false, ↓reduceIte, and_true, true_and, eq_self, Int.add_zero, Int.reduceAdd]; omega) | (simp (disch := omega) only [sA_same, sA_ne, ud_eq, ud_ne, Int.add_zero, Int.reduceAdd]; omega)) | exact o2 (by first | omega | (simp only [sA_same, sA_s, ud_s, Int.reduceEq, if_true, if_false, ite_true, ite_false, ↓reduceIte, and_true, true_and, eq_self, Int.add_zero, Int.reduceAdd]; omega) | (simp (disch := omega) only [sA_same, sA_ne, ud_eq, ud_ne, Int.add_zero, Int.reduceAdd]; omega))
                  · refine v_iconst (n := 35) xB_113 dX10_isKindOrUnder_34 ⟨by decide, by decide⟩ rfl ?_
                    refine v_goto (t := 39) xB_113 dX10_isKindOrUnder_35 (by decide) rfl ?_
                    refine v_ireturn1 xB_113 dX10_isKindOrUnder_39 xK_113 (by decide) ?_
                    first | exact o1 (by first | omega | (simp only [sA_same, sA_s, ud_s, Int.reduceEq, if_true, if_false, ite_true, ite_false, ↓reduceIte, and_true, true_and, eq_self, Int.add_zero, Int.reduceAdd]; omega) | (simp (disch := omega) only [sA_same, sA_ne, ud_eq, ud_ne, Int.add_zero, Int.reduceAdd]; omega)) | exact o2 (by first | omega | (simp only [sA_same, sA_s, ud_s, Int.reduceEq, if_true, if_false, ite_true, ite_false, ↓reduceIte, and_true, true_and, eq_self, Int.add_zero, Int.reduceAdd]; omega) | (simp (disch := omega) only [sA_same, sA_ne, ud_eq, ud_ne, Int.add_zero, Int.reduceAdd]; omega))
                · refine v_gst_0 (n := 20) xB_113 dX10_isKindOrUnder_17 xO_113 gs_10_291 rfl ?_
                  refine v_iload_n (n := 21) xB_113 dX10_isKindOrUnder_20 rfl rfl ?_
                  refine v_iaload (n := 22) (lz := 7) xB_113 dX10_isKindOrUnder_21 (sh_ka _ _ _) rfl (by first | omega | (simp only [sA_same, sA_s, ud_s, Int.reduceEq, if_true, if_false, ite_true, ite_false, ↓reduceIte, and_true, true_and, eq_self, Int.add_zero, Int.reduceAdd]; omega) | (simp (disch := omega) only [sA_same, sA_ne, ud_eq, ud_ne, Int.add_zero, Int.reduceAdd]; omega)) rfl ?_
                  (try simp only [K0, K1, K2, K3, K4, K5, K6])
                  refine v_istore_n2 (n := 23) xB_113 dX10_isKindOrUnder_22 rfl rfl ?_
                  refine v_iinc3 (n := 26) xB_113 dX10_isKindOrUnder_23 rfl (by first | omega | (simp only [sA_same, sA_s, ud_s, Int.reduceEq, if_true, if_false, ite_true, ite_false, ↓reduceIte, and_true, true_and, eq_self, Int.add_zero, Int.reduceAdd]; omega) | (simp (disch := omega) only [sA_same, sA_ne, ud_eq, ud_ne, Int.add_zero, Int.reduceAdd]; omega)) rfl ?_
                  refine v_goto (t := 4) xB_113 dX10_isKindOrUnder_26 (by decide) rfl ?_
                  refine v_iload_n (n := 5) xB_113 dX10_isKindOrUnder_4 rfl rfl ?_
                  refine v_gst_0 (n := 8) xB_113 dX10_isKindOrUnder_5 xO_113 gs_10_291 rfl ?_
                  refine v_alen (n := 9) (lz := 7) xB_113 dX10_isKindOrUnder_8 (sh_ka _ _ _) (by decide) rfl rfl ?_
                  refine v_ic_ge_y (t := 29) xB_113 dX10_isKindOrUnder_9 (by decide) rfl (by decide) ?_
                  refine v_iload_n (n := 30) xB_113 dX10_isKindOrUnder_29 rfl rfl ?_
                  refine v_iload_n (n := 31) xB_113 dX10_isKindOrUnder_30 rfl rfl ?_
                  refine v_ic_ne (t := 38) (n := 34) xB_113 dX10_isKindOrUnder_31 (by decide) rfl rfl (fun g15 => ?_) (fun g15 => ?_)
                  · refine v_iconst (n := 39) xB_113 dX10_isKindOrUnder_38 ⟨by decide, by decide⟩ rfl ?_
                    refine v_ireturn1 xB_113 dX10_isKindOrUnder_39 xK_113 (by decide) ?_
                    first | exact o1 (by first | omega | (simp only [sA_same, sA_s, ud_s, Int.reduceEq, if_true, if_false, ite_true, ite_false, ↓reduceIte, and_true, true_and, eq_self, Int.add_zero, Int.reduceAdd]; omega) | (simp (disch := omega) only [sA_same, sA_ne, ud_eq, ud_ne, Int.add_zero, Int.reduceAdd]; omega)) | exact o2 (by first | omega | (simp only [sA_same, sA_s, ud_s, Int.reduceEq, if_true, if_false, ite_true, ite_false, ↓reduceIte, and_true, true_and, eq_self, Int.add_zero, Int.reduceAdd]; omega) | (simp (disch := omega) only [sA_same, sA_ne, ud_eq, ud_ne, Int.add_zero, Int.reduceAdd]; omega))
                  · refine v_iconst (n := 35) xB_113 dX10_isKindOrUnder_34 ⟨by decide, by decide⟩ rfl ?_
                    refine v_goto (t := 39) xB_113 dX10_isKindOrUnder_35 (by decide) rfl ?_
                    refine v_ireturn1 xB_113 dX10_isKindOrUnder_39 xK_113 (by decide) ?_
                    first | exact o1 (by first | omega | (simp only [sA_same, sA_s, ud_s, Int.reduceEq, if_true, if_false, ite_true, ite_false, ↓reduceIte, and_true, true_and, eq_self, Int.add_zero, Int.reduceAdd]; omega) | (simp (disch := omega) only [sA_same, sA_ne, ud_eq, ud_ne, Int.add_zero, Int.reduceAdd]; omega)) | exact o2 (by first | omega | (simp only [sA_same, sA_s, ud_s, Int.reduceEq, if_true, if_false, ite_true, ite_false, ↓reduceIte, and_true, true_and, eq_self, Int.add_zero, Int.reduceAdd]; omega) | (simp (disch := omega) only [sA_same, sA_ne, ud_eq, ud_ne, Int.add_zero, Int.reduceAdd]; omega))
  · subst hx
    refine v_iload_n (n := 1) xB_113 dX10_isKindOrUnder_0 rfl rfl ?_
    refine v_istore_n2 (n := 2) xB_113 dX10_isKindOrUnder_1 rfl rfl ?_
    refine v_iconst (n := 3) xB_113 dX10_isKindOrUnder_2 ⟨by decide, by decide⟩ rfl ?_
    refine v_istore_n3 (n := 4) xB_113 dX10_isKindOrUnder_3 rfl rfl ?_
    refine v_iload_n (n := 5) xB_113 dX10_isKindOrUnder_4 rfl rfl ?_
    refine v_gst_0 (n := 8) xB_113 dX10_isKindOrUnder_5 xO_113 gs_10_291 rfl ?_
    refine v_alen (n := 9) (lz := 7) xB_113 dX10_isKindOrUnder_8 (sh_ka _ _ _) (by decide) rfl rfl ?_
    refine v_ic_ge_n (n := 12) xB_113 dX10_isKindOrUnder_9 (by decide) rfl (by decide) ?_
    refine v_iload_n (n := 13) xB_113 dX10_isKindOrUnder_12 rfl rfl ?_
    refine v_iload_n (n := 14) xB_113 dX10_isKindOrUnder_13 rfl rfl ?_
    refine v_ic_le (t := 29) (n := 17) xB_113 dX10_isKindOrUnder_14 (by decide) rfl rfl (fun g1 => ?_) (fun g1 => ?_)
    · refine v_iload_n (n := 30) xB_113 dX10_isKindOrUnder_29 rfl rfl ?_
      refine v_iload_n (n := 31) xB_113 dX10_isKindOrUnder_30 rfl rfl ?_
      refine v_ic_ne (t := 38) (n := 34) xB_113 dX10_isKindOrUnder_31 (by decide) rfl rfl (fun g2 => ?_) (fun g2 => ?_)
      · refine v_iconst (n := 39) xB_113 dX10_isKindOrUnder_38 ⟨by decide, by decide⟩ rfl ?_
        refine v_ireturn1 xB_113 dX10_isKindOrUnder_39 xK_113 (by decide) ?_
        first | exact o1 (by first | omega | (simp only [sA_same, sA_s, ud_s, Int.reduceEq, if_true, if_false, ite_true, ite_false, ↓reduceIte, and_true, true_and, eq_self, Int.add_zero, Int.reduceAdd]; omega) | (simp (disch := omega) only [sA_same, sA_ne, ud_eq, ud_ne, Int.add_zero, Int.reduceAdd]; omega)) | exact o2 (by first | omega | (simp only [sA_same, sA_s, ud_s, Int.reduceEq, if_true, if_false, ite_true, ite_false, ↓reduceIte, and_true, true_and, eq_self, Int.add_zero, Int.reduceAdd]; omega) | (simp (disch := omega) only [sA_same, sA_ne, ud_eq, ud_ne, Int.add_zero, Int.reduceAdd]; omega))
      · refine v_iconst (n := 35) xB_113 dX10_isKindOrUnder_34 ⟨by decide, by decide⟩ rfl ?_
        refine v_goto (t := 39) xB_113 dX10_isKindOrUnder_35 (by decide) rfl ?_
        refine v_ireturn1 xB_113 dX10_isKindOrUnder_39 xK_113 (by decide) ?_
        first | exact o1 (by first | omega | (simp only [sA_same, sA_s, ud_s, Int.reduceEq, if_true, if_false, ite_true, ite_false, ↓reduceIte, and_true, true_and, eq_self, Int.add_zero, Int.reduceAdd]; omega) | (simp (disch := omega) only [sA_same, sA_ne, ud_eq, ud_ne, Int.add_zero, Int.reduceAdd]; omega)) | exact o2 (by first | omega | (simp only [sA_same, sA_s, ud_s, Int.reduceEq, if_true, if_false, ite_true, ite_false, ↓reduceIte, and_true, true_and, eq_self, Int.add_zero, Int.reduceAdd]; omega) | (simp (disch := omega) only [sA_same, sA_ne, ud_eq, ud_ne, Int.add_zero, Int.reduceAdd]; omega))
    · refine v_gst_0 (n := 20) xB_113 dX10_isKindOrUnder_17 xO_113 gs_10_291 rfl ?_
      refine v_iload_n (n := 21) xB_113 dX10_isKindOrUnder_20 rfl rfl ?_
      refine v_iaload (n := 22) (lz := 7) xB_113 dX10_isKindOrUnder_21 (sh_ka _ _ _) rfl (by first | omega | (simp only [sA_same, sA_s, ud_s, Int.reduceEq, if_true, if_false, ite_true, ite_false, ↓reduceIte, and_true, true_and, eq_self, Int.add_zero, Int.reduceAdd]; omega) | (simp (disch := omega) only [sA_same, sA_ne, ud_eq, ud_ne, Int.add_zero, Int.reduceAdd]; omega)) rfl ?_
      (try simp only [K0, K1, K2, K3, K4, K5, K6])
      refine v_istore_n2 (n := 23) xB_113 dX10_isKindOrUnder_22 rfl rfl ?_
      refine v_iinc3 (n := 26) xB_113 dX10_isKindOrUnder_23 rfl (by first | omega | (simp only [sA_same, sA_s, ud_s, Int.reduceEq, if_true, if_false, ite_true, ite_false, ↓reduceIte, and_true, true_and, eq_self, Int.add_zero, Int.reduceAdd]; omega) | (simp (disch := omega) only [sA_same, sA_ne, ud_eq, ud_ne, Int.add_zero, Int.reduceAdd]; omega)) rfl ?_
      refine v_goto (t := 4) xB_113 dX10_isKindOrUnder_26 (by decide) rfl ?_
      refine v_iload_n (n := 5) xB_113 dX10_isKindOrUnder_4 rfl rfl ?_
      refine v_gst_0 (n := 8) xB_113 dX10_isKindOrUnder_5 xO_113 gs_10_291 rfl ?_
      refine v_alen (n := 9) (lz := 7) xB_113 dX10_isKindOrUnder_8 (sh_ka _ _ _) (by decide) rfl rfl ?_
      refine v_ic_ge_n (n := 12) xB_113 dX10_isKindOrUnder_9 (by decide) rfl (by decide) ?_
      refine v_iload_n (n := 13) xB_113 dX10_isKindOrUnder_12 rfl rfl ?_
      refine v_iload_n (n := 14) xB_113 dX10_isKindOrUnder_13 rfl rfl ?_
      refine v_ic_le (t := 29) (n := 17) xB_113 dX10_isKindOrUnder_14 (by decide) rfl rfl (fun g3 => ?_) (fun g3 => ?_)
      · refine v_iload_n (n := 30) xB_113 dX10_isKindOrUnder_29 rfl rfl ?_
        refine v_iload_n (n := 31) xB_113 dX10_isKindOrUnder_30 rfl rfl ?_
        refine v_ic_ne (t := 38) (n := 34) xB_113 dX10_isKindOrUnder_31 (by decide) rfl rfl (fun g4 => ?_) (fun g4 => ?_)
        · refine v_iconst (n := 39) xB_113 dX10_isKindOrUnder_38 ⟨by decide, by decide⟩ rfl ?_
          refine v_ireturn1 xB_113 dX10_isKindOrUnder_39 xK_113 (by decide) ?_
          first | exact o1 (by first | omega | (simp only [sA_same, sA_s, ud_s, Int.reduceEq, if_true, if_false, ite_true, ite_false, ↓reduceIte, and_true, true_and, eq_self, Int.add_zero, Int.reduceAdd]; omega) | (simp (disch := omega) only [sA_same, sA_ne, ud_eq, ud_ne, Int.add_zero, Int.reduceAdd]; omega)) | exact o2 (by first | omega | (simp only [sA_same, sA_s, ud_s, Int.reduceEq, if_true, if_false, ite_true, ite_false, ↓reduceIte, and_true, true_and, eq_self, Int.add_zero, Int.reduceAdd]; omega) | (simp (disch := omega) only [sA_same, sA_ne, ud_eq, ud_ne, Int.add_zero, Int.reduceAdd]; omega))
        · refine v_iconst (n := 35) xB_113 dX10_isKindOrUnder_34 ⟨by decide, by decide⟩ rfl ?_
          refine v_goto (t := 39) xB_113 dX10_isKindOrUnder_35 (by decide) rfl ?_
          refine v_ireturn1 xB_113 dX10_isKindOrUnder_39 xK_113 (by decide) ?_
          first | exact o1 (by first | omega | (simp only [sA_same, sA_s, ud_s, Int.reduceEq, if_true, if_false, ite_true, ite_false, ↓reduceIte, and_true, true_and, eq_self, Int.add_zero, Int.reduceAdd]; omega) | (simp (disch := omega) only [sA_same, sA_ne, ud_eq, ud_ne, Int.add_zero, Int.reduceAdd]; omega)) | exact o2 (by first | omega | (simp only [sA_same, sA_s, ud_s, Int.reduceEq, if_true, if_false, ite_true, ite_false, ↓reduceIte, and_true, true_and, eq_self, Int.add_zero, Int.reduceAdd]; omega) | (simp (disch := omega) only [sA_same, sA_ne, ud_eq, ud_ne, Int.add_zero, Int.reduceAdd]; omega))
      · refine v_gst_0 (n := 20) xB_113 dX10_isKindOrUnder_17 xO_113 gs_10_291 rfl ?_
        refine v_iload_n (n := 21) xB_113 dX10_isKindOrUnder_20 rfl rfl ?_
        refine v_iaload (n := 22) (lz := 7) xB_113 dX10_isKindOrUnder_21 (sh_ka _ _ _) rfl (by first | omega | (simp only [sA_same, sA_s, ud_s, Int.reduceEq, if_true, if_false, ite_true, ite_false, ↓reduceIte, and_true, true_and, eq_self, Int.add_zero, Int.reduceAdd]; omega) | (simp (disch := omega) only [sA_same, sA_ne, ud_eq, ud_ne, Int.add_zero, Int.reduceAdd]; omega)) rfl ?_
        (try simp only [K0, K1, K2, K3, K4, K5, K6])
        refine v_istore_n2 (n := 23) xB_113 dX10_isKindOrUnder_22 rfl rfl ?_
        refine v_iinc3 (n := 26) xB_113 dX10_isKindOrUnder_23 rfl (by first | omega | (simp only [sA_same, sA_s, ud_s, Int.reduceEq, if_true, if_false, ite_true, ite_false, ↓reduceIte, and_true, true_and, eq_self, Int.add_zero, Int.reduceAdd]; omega) | (simp (disch := omega) only [sA_same, sA_ne, ud_eq, ud_ne, Int.add_zero, Int.reduceAdd]; omega)) rfl ?_
        refine v_goto (t := 4) xB_113 dX10_isKindOrUnder_26 (by decide) rfl ?_
        refine v_iload_n (n := 5) xB_113 dX10_isKindOrUnder_4 rfl rfl ?_
        refine v_gst_0 (n := 8) xB_113 dX10_isKindOrUnder_5 xO_113 gs_10_291 rfl ?_
        refine v_alen (n := 9) (lz := 7) xB_113 dX10_isKindOrUnder_8 (sh_ka _ _ _) (by decide) rfl rfl ?_
        refine v_ic_ge_n (n := 12) xB_113 dX10_isKindOrUnder_9 (by decide) rfl (by decide) ?_
        refine v_iload_n (n := 13) xB_113 dX10_isKindOrUnder_12 rfl rfl ?_
        refine v_iload_n (n := 14) xB_113 dX10_isKindOrUnder_13 rfl rfl ?_
        refine v_ic_le (t := 29) (n := 17) xB_113 dX10_isKindOrUnder_14 (by decide) rfl rfl (fun g5 => ?_) (fun g5 => ?_)
        · refine v_iload_n (n := 30) xB_113 dX10_isKindOrUnder_29 rfl rfl ?_
          refine v_iload_n (n := 31) xB_113 dX10_isKindOrUnder_30 rfl rfl ?_
          refine v_ic_ne (t := 38) (n := 34) xB_113 dX10_isKindOrUnder_31 (by decide) rfl rfl (fun g6 => ?_) (fun g6 => ?_)
          · refine v_iconst (n := 39) xB_113 dX10_isKindOrUnder_38 ⟨by decide, by decide⟩ rfl ?_
            refine v_ireturn1 xB_113 dX10_isKindOrUnder_39 xK_113 (by decide) ?_
            first | exact o1 (by first | omega | (simp only [sA_same, sA_s, ud_s, Int.reduceEq, if_true, if_false, ite_true, ite_false, ↓reduceIte, and_true, true_and, eq_self, Int.add_zero, Int.reduceAdd]; omega) | (simp (disch := omega) only [sA_same, sA_ne, ud_eq, ud_ne, Int.add_zero, Int.reduceAdd]; omega)) | exact o2 (by first | omega | (simp only [sA_same, sA_s, ud_s, Int.reduceEq, if_true, if_false, ite_true, ite_false, ↓reduceIte, and_true, true_and, eq_self, Int.add_zero, Int.reduceAdd]; omega) | (simp (disch := omega) only [sA_same, sA_ne, ud_eq, ud_ne, Int.add_zero, Int.reduceAdd]; omega))
          · refine v_iconst (n := 35) xB_113 dX10_isKindOrUnder_34 ⟨by decide, by decide⟩ rfl ?_
            refine v_goto (t := 39) xB_113 dX10_isKindOrUnder_35 (by decide) rfl ?_
            refine v_ireturn1 xB_113 dX10_isKindOrUnder_39 xK_113 (by decide) ?_
            first | exact o1 (by first | omega | (simp only [sA_same, sA_s, ud_s, Int.reduceEq, if_true, if_false, ite_true, ite_false, ↓reduceIte, and_true, true_and, eq_self, Int.add_zero, Int.reduceAdd]; omega) | (simp (disch := omega) only [sA_same, sA_ne, ud_eq, ud_ne, Int.add_zero, Int.reduceAdd]; omega)) | exact o2 (by first | omega | (simp only [sA_same, sA_s, ud_s, Int.reduceEq, if_true, if_false, ite_true, ite_false, ↓reduceIte, and_true, true_and, eq_self, Int.add_zero, Int.reduceAdd]; omega) | (simp (disch := omega) only [sA_same, sA_ne, ud_eq, ud_ne, Int.add_zero, Int.reduceAdd]; omega))
        · refine v_gst_0 (n := 20) xB_113 dX10_isKindOrUnder_17 xO_113 gs_10_291 rfl ?_
          refine v_iload_n (n := 21) xB_113 dX10_isKindOrUnder_20 rfl rfl ?_
          refine v_iaload (n := 22) (lz := 7) xB_113 dX10_isKindOrUnder_21 (sh_ka _ _ _) rfl (by first | omega | (simp only [sA_same, sA_s, ud_s, Int.reduceEq, if_true, if_false, ite_true, ite_false, ↓reduceIte, and_true, true_and, eq_self, Int.add_zero, Int.reduceAdd]; omega) | (simp (disch := omega) only [sA_same, sA_ne, ud_eq, ud_ne, Int.add_zero, Int.reduceAdd]; omega)) rfl ?_
          (try simp only [K0, K1, K2, K3, K4, K5, K6])
          refine v_istore_n2 (n := 23) xB_113 dX10_isKindOrUnder_22 rfl rfl ?_
          refine v_iinc3 (n := 26) xB_113 dX10_isKindOrUnder_23 rfl (by first | omega | (simp only [sA_same, sA_s, ud_s, Int.reduceEq, if_true, if_false, ite_true, ite_false, ↓reduceIte, and_true, true_and, eq_self, Int.add_zero, Int.reduceAdd]; omega) | (simp (disch := omega) only [sA_same, sA_ne, ud_eq, ud_ne, Int.add_zero, Int.reduceAdd]; omega)) rfl ?_
          refine v_goto (t := 4) xB_113 dX10_isKindOrUnder_26 (by decide) rfl ?_
          refine v_iload_n (n := 5) xB_113 dX10_isKindOrUnder_4 rfl rfl ?_
          refine v_gst_0 (n := 8) xB_113 dX10_isKindOrUnder_5 xO_113 gs_10_291 rfl ?_
          refine v_alen (n := 9) (lz := 7) xB_113 dX10_isKindOrUnder_8 (sh_ka _ _ _) (by decide) rfl rfl ?_
          refine v_ic_ge_n (n := 12) xB_113 dX10_isKindOrUnder_9 (by decide) rfl (by decide) ?_
          refine v_iload_n (n := 13) xB_113 dX10_isKindOrUnder_12 rfl rfl ?_
          refine v_iload_n (n := 14) xB_113 dX10_isKindOrUnder_13 rfl rfl ?_
          refine v_ic_le (t := 29) (n := 17) xB_113 dX10_isKindOrUnder_14 (by decide) rfl rfl (fun g7 => ?_) (fun g7 => ?_)
          · refine v_iload_n (n := 30) xB_113 dX10_isKindOrUnder_29 rfl rfl ?_
            refine v_iload_n (n := 31) xB_113 dX10_isKindOrUnder_30 rfl rfl ?_
            refine v_ic_ne (t := 38) (n := 34) xB_113 dX10_isKindOrUnder_31 (by decide) rfl rfl (fun g8 => ?_) (fun g8 => ?_)
            · refine v_iconst (n := 39) xB_113 dX10_isKindOrUnder_38 ⟨by decide, by decide⟩ rfl ?_
              refine v_ireturn1 xB_113 dX10_isKindOrUnder_39 xK_113 (by decide) ?_
              first | exact o1 (by first | omega | (simp only [sA_same, sA_s, ud_s, Int.reduceEq, if_true, if_false, ite_true, ite_false, ↓reduceIte, and_true, true_and, eq_self, Int.add_zero, Int.reduceAdd]; omega) | (simp (disch := omega) only [sA_same, sA_ne, ud_eq, ud_ne, Int.add_zero, Int.reduceAdd]; omega)) | exact o2 (by first | omega | (simp only [sA_same, sA_s, ud_s, Int.reduceEq, if_true, if_false, ite_true, ite_false, ↓reduceIte, and_true, true_and, eq_self, Int.add_zero, Int.reduceAdd]; omega) | (simp (disch := omega) only [sA_same, sA_ne, ud_eq, ud_ne, Int.add_zero, Int.reduceAdd]; omega))
            · refine v_iconst (n := 35) xB_113 dX10_isKindOrUnder_34 ⟨by decide, by decide⟩ rfl ?_
              refine v_goto (t := 39) xB_113 dX10_isKindOrUnder_35 (by decide) rfl ?_
              refine v_ireturn1 xB_113 dX10_isKindOrUnder_39 xK_113 (by decide) ?_
              first | exact o1 (by first | omega | (simp only [sA_same, sA_s, ud_s, Int.reduceEq, if_true, if_false, ite_true, ite_false, ↓reduceIte, and_true, true_and, eq_self, Int.add_zero, Int.reduceAdd]; omega) | (simp (disch := omega) only [sA_same, sA_ne, ud_eq, ud_ne, Int.add_zero, Int.reduceAdd]; omega)) | exact o2 (by first | omega | (simp only [sA_same, sA_s, ud_s, Int.reduceEq, if_true, if_false, ite_true, ite_false, ↓reduceIte, and_true, true_and, eq_self, Int.add_zero, Int.reduceAdd]; omega) | (simp (disch := omega) only [sA_same, sA_ne, ud_eq, ud_ne, Int.add_zero, Int.reduceAdd]; omega))
          · refine v_gst_0 (n := 20) xB_113 dX10_isKindOrUnder_17 xO_113 gs_10_291 rfl ?_
            refine v_iload_n (n := 21) xB_113 dX10_isKindOrUnder_20 rfl rfl ?_
            refine v_iaload (n := 22) (lz := 7) xB_113 dX10_isKindOrUnder_21 (sh_ka _ _ _) rfl (by first | omega | (simp only [sA_same, sA_s, ud_s, Int.reduceEq, if_true, if_false, ite_true, ite_false, ↓reduceIte, and_true, true_and, eq_self, Int.add_zero, Int.reduceAdd]; omega) | (simp (disch := omega) only [sA_same, sA_ne, ud_eq, ud_ne, Int.add_zero, Int.reduceAdd]; omega)) rfl ?_
            (try simp only [K0, K1, K2, K3, K4, K5, K6])
            refine v_istore_n2 (n := 23) xB_113 dX10_isKindOrUnder_22 rfl rfl ?_
            refine v_iinc3 (n := 26) xB_113 dX10_isKindOrUnder_23 rfl (by first | omega | (simp only [sA_same, sA_s, ud_s, Int.reduceEq, if_true, if_false, ite_true, ite_false, ↓reduceIte, and_true, true_and, eq_self, Int.add_zero, Int.reduceAdd]; omega) | (simp (disch := omega) only [sA_same, sA_ne, ud_eq, ud_ne, Int.add_zero, Int.reduceAdd]; omega)) rfl ?_
            refine v_goto (t := 4) xB_113 dX10_isKindOrUnder_26 (by decide) rfl ?_
            refine v_iload_n (n := 5) xB_113 dX10_isKindOrUnder_4 rfl rfl ?_
            refine v_gst_0 (n := 8) xB_113 dX10_isKindOrUnder_5 xO_113 gs_10_291 rfl ?_
            refine v_alen (n := 9) (lz := 7) xB_113 dX10_isKindOrUnder_8 (sh_ka _ _ _) (by decide) rfl rfl ?_
            refine v_ic_ge_n (n := 12) xB_113 dX10_isKindOrUnder_9 (by decide) rfl (by decide) ?_
            refine v_iload_n (n := 13) xB_113 dX10_isKindOrUnder_12 rfl rfl ?_
            refine v_iload_n (n := 14) xB_113 dX10_isKindOrUnder_13 rfl rfl ?_
            refine v_ic_le (t := 29) (n := 17) xB_113 dX10_isKindOrUnder_14 (by decide) rfl rfl (fun g9 => ?_) (fun g9 => ?_)
            · refine v_iload_n (n := 30) xB_113 dX10_isKindOrUnder_29 rfl rfl ?_
              refine v_iload_n (n := 31) xB_113 dX10_isKindOrUnder_30 rfl rfl ?_
              refine v_ic_ne (t := 38) (n := 34) xB_113 dX10_isKindOrUnder_31 (by decide) rfl rfl (fun g10 => ?_) (fun g10 => ?_)
              · refine v_iconst (n := 39) xB_113 dX10_isKindOrUnder_38 ⟨by decide, by decide⟩ rfl ?_
                refine v_ireturn1 xB_113 dX10_isKindOrUnder_39 xK_113 (by decide) ?_
                first | exact o1 (by first | omega | (simp only [sA_same, sA_s, ud_s, Int.reduceEq, if_true, if_false, ite_true, ite_false, ↓reduceIte, and_true, true_and, eq_self, Int.add_zero, Int.reduceAdd]; omega) | (simp (disch := omega) only [sA_same, sA_ne, ud_eq, ud_ne, Int.add_zero, Int.reduceAdd]; omega)) | exact o2 (by first | omega | (simp only [sA_same, sA_s, ud_s, Int.reduceEq, if_true, if_false, ite_true, ite_false, ↓reduceIte, and_true, true_and, eq_self, Int.add_zero, Int.reduceAdd]; omega) | (simp (disch := omega) only [sA_same, sA_ne, ud_eq, ud_ne, Int.add_zero, Int.reduceAdd]; omega))
              · refine v_iconst (n := 35) xB_113 dX10_isKindOrUnder_34 ⟨by decide, by decide⟩ rfl ?_
                refine v_goto (t := 39) xB_113 dX10_isKindOrUnder_35 (by decide) rfl ?_
                refine v_ireturn1 xB_113 dX10_isKindOrUnder_39 xK_113 (by decide) ?_
                first | exact o1 (by first | omega | (simp only [sA_same, sA_s, ud_s, Int.reduceEq, if_true, if_false, ite_true, ite_false, ↓reduceIte, and_true, true_and, eq_self, Int.add_zero, Int.reduceAdd]; omega) | (simp (disch := omega) only [sA_same, sA_ne, ud_eq, ud_ne, Int.add_zero, Int.reduceAdd]; omega)) | exact o2 (by first | omega | (simp only [sA_same, sA_s, ud_s, Int.reduceEq, if_true, if_false, ite_true, ite_false, ↓reduceIte, and_true, true_and, eq_self, Int.add_zero, Int.reduceAdd]; omega) | (simp (disch := omega) only [sA_same, sA_ne, ud_eq, ud_ne, Int.add_zero, Int.reduceAdd]; omega))
            · refine v_gst_0 (n := 20) xB_113 dX10_isKindOrUnder_17 xO_113 gs_10_291 rfl ?_
              refine v_iload_n (n := 21) xB_113 dX10_isKindOrUnder_20 rfl rfl ?_
              refine v_iaload (n := 22) (lz := 7) xB_113 dX10_isKindOrUnder_21 (sh_ka _ _ _) rfl (by first | omega | (simp only [sA_same, sA_s, ud_s, Int.reduceEq, if_true, if_false, ite_true, ite_false, ↓reduceIte, and_true, true_and, eq_self, Int.add_zero, Int.reduceAdd]; omega) | (simp (disch := omega) only [sA_same, sA_ne, ud_eq, ud_ne, Int.add_zero, Int.reduceAdd]; omega)) rfl ?_
              (try simp only [K0, K1, K2, K3, K4, K5, K6])
              refine v_istore_n2 (n := 23) xB_113 dX10_isKindOrUnder_22 rfl rfl ?_
              refine v_iinc3 (n := 26) xB_113 dX10_isKindOrUnder_23 rfl (by first | omega | (simp only [sA_same, sA_s, ud_s, Int.reduceEq, if_true, if_false, ite_true, ite_false, ↓reduceIte, and_true, true_and, eq_self, Int.add_zero, Int.reduceAdd]; omega) | (simp (disch := omega) only [sA_same, sA_ne, ud_eq, ud_ne, Int.add_zero, Int.reduceAdd]; omega)) rfl ?_
              refine v_goto (t := 4) xB_113 dX10_isKindOrUnder_26 (by decide) rfl ?_
              refine v_iload_n (n := 5) xB_113 dX10_isKindOrUnder_4 rfl rfl ?_
              refine v_gst_0 (n := 8) xB_113 dX10_isKindOrUnder_5 xO_113 gs_10_291 rfl ?_
              refine v_alen (n := 9) (lz := 7) xB_113 dX10_isKindOrUnder_8 (sh_ka _ _ _) (by decide) rfl rfl ?_
              refine v_ic_ge_n (n := 12) xB_113 dX10_isKindOrUnder_9 (by decide) rfl (by decide) ?_
              refine v_iload_n (n := 13) xB_113 dX10_isKindOrUnder_12 rfl rfl ?_
              refine v_iload_n (n := 14) xB_113 dX10_isKindOrUnder_13 rfl rfl ?_
              refine v_ic_le (t := 29) (n := 17) xB_113 dX10_isKindOrUnder_14 (by decide) rfl rfl (fun g11 => ?_) (fun g11 => ?_)
              · refine v_iload_n (n := 30) xB_113 dX10_isKindOrUnder_29 rfl rfl ?_
                refine v_iload_n (n := 31) xB_113 dX10_isKindOrUnder_30 rfl rfl ?_
                refine v_ic_ne (t := 38) (n := 34) xB_113 dX10_isKindOrUnder_31 (by decide) rfl rfl (fun g12 => ?_) (fun g12 => ?_)
                · refine v_iconst (n := 39) xB_113 dX10_isKindOrUnder_38 ⟨by decide, by decide⟩ rfl ?_
                  refine v_ireturn1 xB_113 dX10_isKindOrUnder_39 xK_113 (by decide) ?_
                  first | exact o1 (by first | omega | (simp only [sA_same, sA_s, ud_s, Int.reduceEq, if_true, if_false, ite_true, ite_false, ↓reduceIte, and_true, true_and, eq_self, Int.add_zero, Int.reduceAdd]; omega) | (simp (disch := omega) only [sA_same, sA_ne, ud_eq, ud_ne, Int.add_zero, Int.reduceAdd]; omega)) | exact o2 (by first | omega | (simp only [sA_same, sA_s, ud_s, Int.reduceEq, if_true, if_false, ite_true, ite_false, ↓reduceIte, and_true, true_and, eq_self, Int.add_zero, Int.reduceAdd]; omega) | (simp (disch := omega) only [sA_same, sA_ne, ud_eq, ud_ne, Int.add_zero, Int.reduceAdd]; omega))
                · refine v_iconst (n := 35) xB_113 dX10_isKindOrUnder_34 ⟨by decide, by decide⟩ rfl ?_
                  refine v_goto (t := 39) xB_113 dX10_isKindOrUnder_35 (by decide) rfl ?_
                  refine v_ireturn1 xB_113 dX10_isKindOrUnder_39 xK_113 (by decide) ?_
                  first | exact o1 (by first | omega | (simp only [sA_same, sA_s, ud_s, Int.reduceEq, if_true, if_false, ite_true, ite_false, ↓reduceIte, and_true, true_and, eq_self, Int.add_zero, Int.reduceAdd]; omega) | (simp (disch := omega) only [sA_same, sA_ne, ud_eq, ud_ne, Int.add_zero, Int.reduceAdd]; omega)) | exact o2 (by first | omega | (simp only [sA_same, sA_s, ud_s, Int.reduceEq, if_true, if_false, ite_true, ite_false, ↓reduceIte, and_true, true_and, eq_self, Int.add_zero, Int.reduceAdd]; omega) | (simp (disch := omega) only [sA_same, sA_ne, ud_eq, ud_ne, Int.add_zero, Int.reduceAdd]; omega))
              · refine v_gst_0 (n := 20) xB_113 dX10_isKindOrUnder_17 xO_113 gs_10_291 rfl ?_
                refine v_iload_n (n := 21) xB_113 dX10_isKindOrUnder_20 rfl rfl ?_
                refine v_iaload (n := 22) (lz := 7) xB_113 dX10_isKindOrUnder_21 (sh_ka _ _ _) rfl (by first | omega | (simp only [sA_same, sA_s, ud_s, Int.reduceEq, if_true, if_false, ite_true, ite_false, ↓reduceIte, and_true, true_and, eq_self, Int.add_zero, Int.reduceAdd]; omega) | (simp (disch := omega) only [sA_same, sA_ne, ud_eq, ud_ne, Int.add_zero, Int.reduceAdd]; omega)) rfl ?_
                (try simp only [K0, K1, K2, K3, K4, K5, K6])
                refine v_istore_n2 (n := 23) xB_113 dX10_isKindOrUnder_22 rfl rfl ?_
                refine v_iinc3 (n := 26) xB_113 dX10_isKindOrUnder_23 rfl (by first | omega | (simp only [sA_same, sA_s, ud_s, Int.reduceEq, if_true, if_false, ite_true, ite_false, ↓reduceIte, and_true, true_and, eq_self, Int.add_zero, Int.reduceAdd]; omega) | (simp (disch := omega) only [sA_same, sA_ne, ud_eq, ud_ne, Int.add_zero, Int.reduceAdd]; omega)) rfl ?_
                refine v_goto (t := 4) xB_113 dX10_isKindOrUnder_26 (by decide) rfl ?_
                refine v_iload_n (n := 5) xB_113 dX10_isKindOrUnder_4 rfl rfl ?_
                refine v_gst_0 (n := 8) xB_113 dX10_isKindOrUnder_5 xO_113 gs_10_291 rfl ?_
                refine v_alen (n := 9) (lz := 7) xB_113 dX10_isKindOrUnder_8 (sh_ka _ _ _) (by decide) rfl rfl ?_
                refine v_ic_ge_n (n := 12) xB_113 dX10_isKindOrUnder_9 (by decide) rfl (by decide) ?_
                refine v_iload_n (n := 13) xB_113 dX10_isKindOrUnder_12 rfl rfl ?_
                refine v_iload_n (n := 14) xB_113 dX10_isKindOrUnder_13 rfl rfl ?_
                refine v_ic_le (t := 29) (n := 17) xB_113 dX10_isKindOrUnder_14 (by decide) rfl rfl (fun g13 => ?_) (fun g13 => ?_)
                · refine v_iload_n (n := 30) xB_113 dX10_isKindOrUnder_29 rfl rfl ?_
                  refine v_iload_n (n := 31) xB_113 dX10_isKindOrUnder_30 rfl rfl ?_
                  refine v_ic_ne (t := 38) (n := 34) xB_113 dX10_isKindOrUnder_31 (by decide) rfl rfl (fun g14 => ?_) (fun g14 => ?_)
                  · refine v_iconst (n := 39) xB_113 dX10_isKindOrUnder_38 ⟨by decide, by decide⟩ rfl ?_
                    refine v_ireturn1 xB_113 dX10_isKindOrUnder_39 xK_113 (by decide) ?_
                    first | exact o1 (by first | omega | (simp only [sA_same, sA_s, ud_s, Int.reduceEq, if_true, if_false, ite_true, ite_false, ↓reduceIte, and_true, true_and, eq_self, Int.add_zero, Int.reduceAdd]; omega) | (simp (disch := omega) only [sA_same, sA_ne, ud_eq, ud_ne, Int.add_zero, Int.reduceAdd]; omega)) | exact o2 (by first | omega | (simp only [sA_same, sA_s, ud_s, Int.reduceEq, if_true, if_false, ite_true, ite_false, ↓reduceIte, and_true, true_and, eq_self, Int.add_zero, Int.reduceAdd]; omega) | (simp (disch := omega) only [sA_same, sA_ne, ud_eq, ud_ne, Int.add_zero, Int.reduceAdd]; omega))
                  · refine v_iconst (n := 35) xB_113 dX10_isKindOrUnder_34 ⟨by decide, by decide⟩ rfl ?_
                    refine v_goto (t := 39) xB_113 dX10_isKindOrUnder_35 (by decide) rfl ?_
                    refine v_ireturn1 xB_113 dX10_isKindOrUnder_39 xK_113 (by decide) ?_
                    first | exact o1 (by first | omega | (simp only [sA_same, sA_s, ud_s, Int.reduceEq, if_true, if_false, ite_true, ite_false, ↓reduceIte, and_true, true_and, eq_self, Int.add_zero, Int.reduceAdd]; omega) | (simp (disch := omega) only [sA_same, sA_ne, ud_eq, ud_ne, Int.add_zero, Int.reduceAdd]; omega)) | exact o2 (by first | omega | (simp only [sA_same, sA_s, ud_s, Int.reduceEq, if_true, if_false, ite_true, ite_false, ↓reduceIte, and_true, true_and, eq_self, Int.add_zero, Int.reduceAdd]; omega) | (simp (disch := omega) only [sA_same, sA_ne, ud_eq, ud_ne, Int.add_zero, Int.reduceAdd]; omega))
                · refine v_gst_0 (n := 20) xB_113 dX10_isKindOrUnder_17 xO_113 gs_10_291 rfl ?_
                  refine v_iload_n (n := 21) xB_113 dX10_isKindOrUnder_20 rfl rfl ?_
                  refine v_iaload (n := 22) (lz := 7) xB_113 dX10_isKindOrUnder_21 (sh_ka _ _ _) rfl (by first | omega | (simp only [sA_same, sA_s, ud_s, Int.reduceEq, if_true, if_false, ite_true, ite_false, ↓reduceIte, and_true, true_and, eq_self, Int.add_zero, Int.reduceAdd]; omega) | (simp (disch := omega) only [sA_same, sA_ne, ud_eq, ud_ne, Int.add_zero, Int.reduceAdd]; omega)) rfl ?_
                  (try simp only [K0, K1, K2, K3, K4, K5, K6])
                  refine v_istore_n2 (n := 23) xB_113 dX10_isKindOrUnder_22 rfl rfl ?_
                  refine v_iinc3 (n := 26) xB_113 dX10_isKindOrUnder_23 rfl (by first | omega | (simp only [sA_same, sA_s, ud_s, Int.reduceEq, if_true, if_false, ite_true, ite_false, ↓reduceIte, and_true, true_and, eq_self, Int.add_zero, Int.reduceAdd]; omega) | (simp (disch := omega) only [sA_same, sA_ne, ud_eq, ud_ne, Int.add_zero, Int.reduceAdd]; omega)) rfl ?_
                  refine v_goto (t := 4) xB_113 dX10_isKindOrUnder_26 (by decide) rfl ?_
                  refine v_iload_n (n := 5) xB_113 dX10_isKindOrUnder_4 rfl rfl ?_
                  refine v_gst_0 (n := 8) xB_113 dX10_isKindOrUnder_5 xO_113 gs_10_291 rfl ?_
                  refine v_alen (n := 9) (lz := 7) xB_113 dX10_isKindOrUnder_8 (sh_ka _ _ _) (by decide) rfl rfl ?_
                  refine v_ic_ge_y (t := 29) xB_113 dX10_isKindOrUnder_9 (by decide) rfl (by decide) ?_
                  refine v_iload_n (n := 30) xB_113 dX10_isKindOrUnder_29 rfl rfl ?_
                  refine v_iload_n (n := 31) xB_113 dX10_isKindOrUnder_30 rfl rfl ?_
                  refine v_ic_ne (t := 38) (n := 34) xB_113 dX10_isKindOrUnder_31 (by decide) rfl rfl (fun g15 => ?_) (fun g15 => ?_)
                  · refine v_iconst (n := 39) xB_113 dX10_isKindOrUnder_38 ⟨by decide, by decide⟩ rfl ?_
                    refine v_ireturn1 xB_113 dX10_isKindOrUnder_39 xK_113 (by decide) ?_
                    first | exact o1 (by first | omega | (simp only [sA_same, sA_s, ud_s, Int.reduceEq, if_true, if_false, ite_true, ite_false, ↓reduceIte, and_true, true_and, eq_self, Int.add_zero, Int.reduceAdd]; omega) | (simp (disch := omega) only [sA_same, sA_ne, ud_eq, ud_ne, Int.add_zero, Int.reduceAdd]; omega)) | exact o2 (by first | omega | (simp only [sA_same, sA_s, ud_s, Int.reduceEq, if_true, if_false, ite_true, ite_false, ↓reduceIte, and_true, true_and, eq_self, Int.add_zero, Int.reduceAdd]; omega) | (simp (disch := omega) only [sA_same, sA_ne, ud_eq, ud_ne, Int.add_zero, Int.reduceAdd]; omega))
                  · refine v_iconst (n := 35) xB_113 dX10_isKindOrUnder_34 ⟨by decide, by decide⟩ rfl ?_
                    refine v_goto (t := 39) xB_113 dX10_isKindOrUnder_35 (by decide) rfl ?_
                    refine v_ireturn1 xB_113 dX10_isKindOrUnder_39 xK_113 (by decide) ?_
                    first | exact o1 (by first | omega | (simp only [sA_same, sA_s, ud_s, Int.reduceEq, if_true, if_false, ite_true, ite_false, ↓reduceIte, and_true, true_and, eq_self, Int.add_zero, Int.reduceAdd]; omega) | (simp (disch := omega) only [sA_same, sA_ne, ud_eq, ud_ne, Int.add_zero, Int.reduceAdd]; omega)) | exact o2 (by first | omega | (simp only [sA_same, sA_s, ud_s, Int.reduceEq, if_true, if_false, ite_true, ite_false, ↓reduceIte, and_true, true_and, eq_self, Int.add_zero, Int.reduceAdd]; omega) | (simp (disch := omega) only [sA_same, sA_ne, ud_eq, ud_ne, Int.add_zero, Int.reduceAdd]; omega))
  · subst hx
    refine v_iload_n (n := 1) xB_113 dX10_isKindOrUnder_0 rfl rfl ?_
    refine v_istore_n2 (n := 2) xB_113 dX10_isKindOrUnder_1 rfl rfl ?_
    refine v_iconst (n := 3) xB_113 dX10_isKindOrUnder_2 ⟨by decide, by decide⟩ rfl ?_
    refine v_istore_n3 (n := 4) xB_113 dX10_isKindOrUnder_3 rfl rfl ?_
    refine v_iload_n (n := 5) xB_113 dX10_isKindOrUnder_4 rfl rfl ?_
    refine v_gst_0 (n := 8) xB_113 dX10_isKindOrUnder_5 xO_113 gs_10_291 rfl ?_
    refine v_alen (n := 9) (lz := 7) xB_113 dX10_isKindOrUnder_8 (sh_ka _ _ _) (by decide) rfl rfl ?_
    refine v_ic_ge_n (n := 12) xB_113 dX10_isKindOrUnder_9 (by decide) rfl (by decide) ?_
    refine v_iload_n (n := 13) xB_113 dX10_isKindOrUnder_12 rfl rfl ?_
    refine v_iload_n (n := 14) xB_113 dX10_isKindOrUnder_13 rfl rfl ?_
    refine v_ic_le (t := 29) (n := 17) xB_113 dX10_isKindOrUnder_14 (by decide) rfl rfl (fun g1 => ?_) (fun g1 => ?_)
    · refine v_iload_n (n := 30) xB_113 dX10_isKindOrUnder_29 rfl rfl ?_
      refine v_iload_n (n := 31) xB_113 dX10_isKindOrUnder_30 rfl rfl ?_
      refine v_ic_ne (t := 38) (n := 34) xB_113 dX10_isKindOrUnder_31 (by decide) rfl rfl (fun g2 => ?_) (fun g2 => ?_)
      · refine v_iconst (n := 39) xB_113 dX10_isKindOrUnder_38 ⟨by decide, by decide⟩ rfl ?_
        refine v_ireturn1 xB_113 dX10_isKindOrUnder_39 xK_113 (by decide) ?_
        first | exact o1 (by first | omega | (simp only [sA_same, sA_s, ud_s, Int.reduceEq, if_true, if_false, ite_true, ite_false, ↓reduceIte, and_true, true_and, eq_self, Int.add_zero, Int.reduceAdd]; omega) | (simp (disch := omega) only [sA_same, sA_ne, ud_eq, ud_ne, Int.add_zero, Int.reduceAdd]; omega)) | exact o2 (by first | omega | (simp only [sA_same, sA_s, ud_s, Int.reduceEq, if_true, if_false, ite_true, ite_false, ↓reduceIte, and_true, true_and, eq_self, Int.add_zero, Int.reduceAdd]; omega) | (simp (disch := omega) only [sA_same, sA_ne, ud_eq, ud_ne, Int.add_zero, Int.reduceAdd]; omega))
      · refine v_iconst (n := 35) xB_113 dX10_isKindOrUnder_34 ⟨by decide, by decide⟩ rfl ?_
        refine v_goto (t := 39) xB_113 dX10_isKindOrUnder_35 (by decide) rfl ?_
        refine v_ireturn1 xB_113 dX10_isKindOrUnder_39 xK_113 (by decide) ?_
        first | exact o1 (by first | omega | (simp only [sA_same, sA_s, ud_s, Int.reduceEq, if_true, if_false, ite_true, ite_false, ↓reduceIte, and_true, true_and, eq_self, Int.add_zero, Int.reduceAdd]; omega) | (simp (disch := omega) only [sA_same, sA_ne, ud_eq, ud_ne, Int.add_zero, Int.reduceAdd]; omega)) | exact o2 (by first | omega | (simp only [sA_same, sA_s, ud_s, Int.reduceEq, if_true, if_false, ite_true, ite_false, ↓reduceIte, and_true, true_and, eq_self, Int.add_zero, Int.reduceAdd]; omega) | (simp (disch := omega) only [sA_same, sA_ne, ud_eq, ud_ne, Int.add_zero, Int.reduceAdd]; omega))
    · refine v_gst_0 (n := 20) xB_113 dX10_isKindOrUnder_17 xO_113 gs_10_291 rfl ?_
      refine v_iload_n (n := 21) xB_113 dX10_isKindOrUnder_20 rfl rfl ?_
      refine v_iaload (n := 22) (lz := 7) xB_113 dX10_isKindOrUnder_21 (sh_ka _ _ _) rfl (by first | omega | (simp only [sA_same, sA_s, ud_s, Int.reduceEq, if_true, if_false, ite_true, ite_false, ↓reduceIte, and_true, true_and, eq_self, Int.add_zero, Int.reduceAdd]; omega) | (simp (disch := omega) only [sA_same, sA_ne, ud_eq, ud_ne, Int.add_zero, Int.reduceAdd]; omega)) rfl ?_
      (try simp only [K0, K1, K2, K3, K4, K5, K6])
      refine v_istore_n2 (n := 23) xB_113 dX10_isKindOrUnder_22 rfl rfl ?_
      refine v_iinc3 (n := 26) xB_113 dX10_isKindOrUnder_23 rfl (by first | omega | (simp only [sA_same, sA_s, ud_s, Int.reduceEq, if_true, if_false, ite_true, ite_false, ↓reduceIte, and_true, true_and, eq_self, Int.add_zero, Int.reduceAdd]; omega) | (simp (disch := omega) only [sA_same, sA_ne, ud_eq, ud_ne, Int.add_zero, Int.reduceAdd]; omega)) rfl ?_
      refine v_goto (t := 4) xB_113 dX10_isKindOrUnder_26 (by decide) rfl ?_
      refine v_iload_n (n := 5) xB_113 dX10_isKindOrUnder_4 rfl rfl ?_
      refine v_gst_0 (n := 8) xB_113 dX10_isKindOrUnder_5 xO_113 gs_10_291 rfl ?_
      refine v_alen (n := 9) (lz := 7) xB_113 dX10_isKindOrUnder_8 (sh_ka _ _ _) (by decide) rfl rfl ?_
      refine v_ic_ge_n (n := 12) xB_113 dX10_isKindOrUnder_9 (by decide) rfl (by decide) ?_
      refine v_iload_n (n := 13) xB_113 dX10_isKindOrUnder_12 rfl rfl ?_
      refine v_iload_n (n := 14) xB_113 dX10_isKindOrUnder_13 rfl rfl ?_
      refine v_ic_le (t := 29) (n := 17) xB_113 dX10_isKindOrUnder_14 (by decide) rfl rfl (fun g3 => ?_) (fun g3 => ?_)
      · refine v_iload_n (n := 30) xB_113 dX10_isKindOrUnder_29 rfl rfl ?_
        refine v_iload_n (n := 31) xB_113 dX10_isKindOrUnder_30 rfl rfl ?_
        refine v_ic_ne (t := 38) (n := 34) xB_113 dX10_isKindOrUnder_31 (by decide) rfl rfl (fun g4 => ?_) (fun g4 => ?_)
        · refine v_iconst (n := 39) xB_113 dX10_isKindOrUnder_38 ⟨by decide, by decide⟩ rfl ?_
          refine v_ireturn1 xB_113 dX10_isKindOrUnder_39 xK_113 (by decide) ?_
          first | exact o1 (by first | omega | (simp only [sA_same, sA_s, ud_s, Int.reduceEq, if_true, if_false, ite_true, ite_false, ↓reduceIte, and_true, true_and, eq_self, Int.add_zero, Int.reduceAdd]; omega) | (simp (disch := omega) only [sA_same, sA_ne, ud_eq, ud_ne, Int.add_zero, Int.reduceAdd]; omega)) | exact o2 (by first | omega | (simp only [sA_same, sA_s, ud_s, Int.reduceEq, if_true, if_false, ite_true, ite_false, ↓reduceIte, and_true, true_and, eq_self, Int.add_zero, Int.reduceAdd]; omega) | (simp (disch := omega) only [sA_same, sA_ne, ud_eq, ud_ne, Int.add_zero, Int.reduceAdd]; omega))
        · refine v_iconst (n := 35) xB_113 dX10_isKindOrUnder_34 ⟨by decide, by decide⟩ rfl ?_
          refine v_goto (t := 39) xB_113 dX10_isKindOrUnder_35 (by decide) rfl ?_
          refine v_ireturn1 xB_113 dX10_isKindOrUnder_39 xK_113 (by decide) ?_
          first | exact o1 (by first | omega | (simp only [sA_same, sA_s, ud_s, Int.reduceEq, if_true, if_false, ite_true, ite_false, ↓reduceIte, and_true, true_and, eq_self, Int.add_zero, Int.reduceAdd]; omega) | (simp (disch := omega) only [sA_same, sA_ne, ud_eq, ud_ne, Int.add_zero, Int.reduceAdd]; omega)) | exact o2 (by first | omega | (simp only [sA_same, sA_s, ud_s, Int.reduceEq, if_true, if_false, ite_true, ite_false, ↓reduceIte, and_true, true_and, eq_self, Int.add_zero, Int.reduceAdd]; omega) | (simp (disch := omega) only [sA_same, sA_ne, ud_eq, ud_ne, Int.add_zero, Int.reduceAdd]; omega))
      · refine v_gst_0 (n := 20) xB_113 dX10_isKindOrUnder_17 xO_113 gs_10_291 rfl ?_
        refine v_iload_n (n := 21) xB_113 dX10_isKindOrUnder_20 rfl rfl ?_
        refine v_iaload (n := 22) (lz := 7) xB_113 dX10_isKindOrUnder_21 (sh_ka _ _ _) rfl (by first | omega | (simp only [sA_same, sA_s, ud_s, Int.reduceEq, if_true, if_false, ite_true, ite_false, ↓reduceIte, and_true, true_and, eq_self, Int.add_zero, Int.reduceAdd]; omega) | (simp (disch := omega) only [sA_same, sA_ne, ud_eq, ud_ne, Int.add_zero, Int.reduceAdd]; omega)) rfl ?_
        (try simp only [K0, K1, K2, K3, K4, K5, K6])
        refine v_istore_n2 (n := 23) xB_113 dX10_isKindOrUnder_22 rfl rfl ?_
        refine v_iinc3 (n := 26) xB_113 dX10_isKindOrUnder_23 rfl (by first | omega | (simp only [sA_same, sA_s, ud_s, Int.reduceEq, if_true, if_false, ite_true, ite_false, ↓reduceIte, and_true, true_and, eq_self, Int.add_zero, Int.reduceAdd]; omega) | (simp (disch := omega) only [sA_same, sA_ne, ud_eq, ud_ne, Int.add_zero, Int.reduceAdd]; omega)) rfl ?_
        refine v_goto (t := 4) xB_113 dX10_isKindOrUnder_26 (by decide) rfl ?_
        refine v_iload_n (n := 5) xB_113 dX10_isKindOrUnder_4 rfl rfl ?_
        refine v_gst_0 (n := 8) xB_113 dX10_isKindOrUnder_5 xO_113 gs_10_291 rfl ?_
        refine v_alen (n := 9) (lz := 7) xB_113 dX10_isKindOrUnder_8 (sh_ka _ _ _) (by decide) rfl rfl ?_
        refine v_ic_ge_n (n := 12) xB_113 dX10_isKindOrUnder_9 (by decide) rfl (by decide) ?_
        refine v_iload_n (n := 13) xB_113 dX10_isKindOrUnder_12 rfl rfl ?_
        refine v_iload_n (n := 14) xB_113 dX10_isKindOrUnder_13 rfl rfl ?_
        refine v_ic_le (t := 29) (n := 17) xB_113 dX10_isKindOrUnder_14 (by decide) rfl rfl (fun g5 => ?_) (fun g5 => ?_)
        · refine v_iload_n (n := 30) xB_113 dX10_isKindOrUnder_29 rfl rfl ?_
          refine v_iload_n (n := 31) xB_113 dX10_isKindOrUnder_30 rfl rfl ?_
          refine v_ic_ne (t := 38) (n := 34) xB_113 dX10_isKindOrUnder_31 (by decide) rfl rfl (fun g6 => ?_) (fun g6 => ?_)
          · refine v_iconst (n := 39) xB_113 dX10_isKindOrUnder_38 ⟨by decide, by decide⟩ rfl ?_
            refine v_ireturn1 xB_113 dX10_isKindOrUnder_39 xK_113 (by decide) ?_
            first | exact o1 (by first | omega | (simp only [sA_same, sA_s, ud_s, Int.reduceEq, if_true, if_false, ite_true, ite_false, ↓reduceIte, and_true, true_and, eq_self, Int.add_zero, Int.reduceAdd]; omega) | (simp (disch := omega) only [sA_same, sA_ne, ud_eq, ud_ne, Int.add_zero, Int.reduceAdd]; omega)) | exact o2 (by first | omega | (simp only [sA_same, sA_s, ud_s, Int.reduceEq, if_true, if_false, ite_true, ite_false, ↓reduceIte, and_true, true_and, eq_self, Int.add_zero, Int.reduceAdd]; omega) | (simp (disch := omega) only [sA_same, sA_ne, ud_eq, ud_ne, Int.add_zero, Int.reduceAdd]; omega))
          · refine v_iconst (n := 35) xB_113 dX10_isKindOrUnder_34 ⟨by decide, by decide⟩ rfl ?_
            refine v_goto (t := 39) xB_113 dX10_isKindOrUnder_35 (by decide) rfl ?_
            refine v_ireturn1 xB_113 dX10_isKindOrUnder_39 xK_113 (by decide) ?_
            first | exact o1 (by first | omega | (simp only [sA_same, sA_s, ud_s, Int.reduceEq, if_true, if_false, ite_true, ite_false, ↓reduceIte, and_true, true_and, eq_self, Int.add_zero, Int.reduceAdd]; omega) | (simp (disch := omega) only [sA_same, sA_ne, ud_eq, ud_ne, Int.add_zero, Int.reduceAdd]; omega)) | exact o2 (by first | omega | (simp only [sA_same, sA_s, ud_s, Int.reduceEq, if_true, if_false, ite_true, ite_false, ↓reduceIte, and_true, true_and, eq_self, Int.add_zero, Int.reduceAdd]; omega) | (simp (disch := omega) only [sA_same, sA_ne, ud_eq, ud_ne, Int.add_zero, Int.reduceAdd]; omega))
        · refine v_gst_0 (n := 20) xB_113 dX10_isKindOrUnder_17 xO_113 gs_10_291 rfl ?_
          refine v_iload_n (n := 21) xB_113 dX10_isKindOrUnder_20 rfl rfl ?_
          refine v_iaload (n := 22) (lz := 7) xB_113 dX10_isKindOrUnder_21 (sh_ka _ _ _) rfl (by first | omega | (simp only [sA_same, sA_s, ud_s, Int.reduceEq, if_true, if_false, ite_true, ite_false, ↓reduceIte, and_true, true_and, eq_self, Int.add_zero, Int.reduceAdd]; omega) | (simp (disch := omega) only [sA_same, sA_ne, ud_eq, ud_ne, Int.add_zero, Int.reduceAdd]; omega)) rfl ?_
          (try simp only [K0, K1, K2, K3, K4, K5, K6])
          refine v_istore_n2 (n := 23) xB_113 dX10_isKindOrUnder_22 rfl rfl ?_
          refine v_iinc3 (n := 26) xB_113 dX10_isKindOrUnder_23 rfl (by first | omega | (simp only [sA_same, sA_s, ud_s, Int.reduceEq, if_true, if_false, ite_true, ite_false, ↓reduceIte, and_true, true_and, eq_self, Int.add_zero, Int.reduceAdd]; omega) | (simp (disch := omega) only [sA_same, sA_ne, ud_eq, ud_ne, Int.add_zero, Int.reduceAdd]; omega)) rfl ?_
          refine v_goto (t := 4) xB_113 dX10_isKindOrUnder_26 (by decide) rfl ?_
          refine v_iload_n (n := 5) xB_113 dX10_isKindOrUnder_4 rfl rfl ?_
          refine v_gst_0 (n := 8) xB_113 dX10_isKindOrUnder_5 xO_113 gs_10_291 rfl ?_
          refine v_alen (n := 9) (lz := 7) xB_113 dX10_isKindOrUnder_8 (sh_ka _ _ _) (by decide) rfl rfl ?_
          refine v_ic_ge_n (n := 12) xB_113 dX10_isKindOrUnder_9 (by decide) rfl (by decide) ?_
          refine v_iload_n (n := 13) xB_113 dX10_isKindOrUnder_12 rfl rfl ?_
          refine v_iload_n (n := 14) xB_113 dX10_isKindOrUnder_13 rfl rfl ?_
          refine v_ic_le (t := 29) (n := 17) xB_113 dX10_isKindOrUnder_14 (by decide) rfl rfl (fun g7 => ?_) (fun g7 => ?_)
          · refine v_iload_n (n := 30) xB_113 dX10_isKindOrUnder_29 rfl rfl ?_
            refine v_iload_n (n := 31) xB_113 dX10_isKindOrUnder_30 rfl rfl ?_
            refine v_ic_ne (t := 38) (n := 34) xB_113 dX10_isKindOrUnder_31 (by decide) rfl rfl (fun g8 => ?_) (fun g8 => ?_)
            · refine v_iconst (n := 39) xB_113 dX10_isKindOrUnder_38 ⟨by decide, by decide⟩ rfl ?_
              refine v_ireturn1 xB_113 dX10_isKindOrUnder_39 xK_113 (by decide) ?_
              first | exact o1 (by first | omega | (simp only [sA_same, sA_s, ud_s, Int.reduceEq, if_true, if_false, ite_true, ite_false, ↓reduceIte, and_true, true_and, eq_self, Int.add_zero, Int.reduceAdd]; omega) | (simp (disch := omega) only [sA_same, sA_ne, ud_eq, ud_ne, Int.add_zero, Int.reduceAdd]; omega)) | exact o2 (by first | omega | (simp only [sA_same, sA_s, ud_s, Int.reduceEq, if_true, if_false, ite_true, ite_false, ↓reduceIte, and_true, true_and, eq_self, Int.add_zero, Int.reduceAdd]; omega) | (simp (disch := omega) only [sA_same, sA_ne, ud_eq, ud_ne, Int.add_zero, Int.reduceAdd]; omega))
            · refine v_iconst (n := 35) xB_113 dX10_isKindOrUnder_34 ⟨by decide, by decide⟩ rfl ?_
              refine v_goto (t := 39) xB_113 dX10_isKindOrUnder_35 (by decide) rfl ?_
              refine v_ireturn1 xB_113 dX10_isKindOrUnder_39 xK_113 (by decide) ?_
              first | exact o1 (by first | omega | (simp only [sA_same, sA_s, ud_s, Int.reduceEq, if_true, if_false, ite_true, ite_false, ↓reduceIte, and_true, true_and, eq_self, Int.add_zero, Int.reduceAdd]; omega) | (simp (disch := omega) only [sA_same, sA_ne, ud_eq, ud_ne, Int.add_zero, Int.reduceAdd]; omega)) | exact o2 (by first | omega | (simp only [sA_same, sA_s, ud_s, Int.reduceEq, if_true, if_false, ite_true, ite_false, ↓reduceIte, and_true, true_and, eq_self, Int.add_zero, Int.reduceAdd]; omega) | (simp (disch := omega) only [sA_same, sA_ne, ud_eq, ud_ne, Int.add_zero, Int.reduceAdd]; omega))
          · refine v_gst_0 (n := 20) xB_113 dX10_isKindOrUnder_17 xO_113 gs_10_291 rfl ?_
            refine v_iload_n (n := 21) xB_113 dX10_isKindOrUnder_20 rfl rfl ?_
            refine v_iaload (n := 22) (lz := 7) xB_113 dX10_isKindOrUnder_21 (sh_ka _ _ _) rfl (by first | omega | (simp only [sA_same, sA_s, ud_s, Int.reduceEq, if_true, if_false, ite_true, ite_false, ↓reduceIte, and_true, true_and, eq_self, Int.add_zero, Int.reduceAdd]; omega) | (simp (disch := omega) only [sA_same, sA_ne, ud_eq, ud_ne, Int.add_zero, Int.reduceAdd]; omega)) rfl ?_
            (try simp only [K0, K1, K2, K3, K4, K5, K6])
            refine v_istore_n2 (n := 23) xB_113 dX10_isKindOrUnder_22 rfl rfl ?_
            refine v_iinc3 (n := 26) xB_113 dX10_isKindOrUnder_23 rfl (by first | omega | (simp only [sA_same, sA_s, ud_s, Int.reduceEq, if_true, if_false, ite_true, ite_false, ↓reduceIte, and_true, true_and, eq_self, Int.add_zero, Int.reduceAdd]; omega) | (simp (disch := omega) only [sA_same, sA_ne, ud_eq, ud_ne, Int.add_zero, Int.reduceAdd]; omega)) rfl ?_
            refine v_goto (t := 4) xB_113 dX10_isKindOrUnder_26 (by decide) rfl ?_
            refine v_iload_n (n := 5) xB_113 dX10_isKindOrUnder_4 rfl rfl ?_
            refine v_gst_0 (n := 8) xB_113 dX10_isKindOrUnder_5 xO_113 gs_10_291 rfl ?_
            refine v_alen (n := 9) (lz := 7) xB_113 dX10_isKindOrUnder_8 (sh_ka _ _ _) (by decide) rfl rfl ?_
            refine v_ic_ge_n (n := 12) xB_113 dX10_isKindOrUnder_9 (by decide) rfl (by decide) ?_
            refine v_iload_n (n := 13) xB_113 dX10_isKindOrUnder_12 rfl rfl ?_
            refine v_iload_n (n := 14) xB_113 dX10_isKindOrUnder_13 rfl rfl ?_
            refine v_ic_le (t := 29) (n := 17) xB_113 dX10_isKindOrUnder_14 (by decide) rfl rfl (fun g9 => ?_) (fun g9 => ?_)
            · refine v_iload_n (n := 30) xB_113 dX10_isKindOrUnder_29 rfl rfl ?_
              refine v_iload_n (n := 31) xB_113 dX10_isKindOrUnder_30 rfl rfl ?_
              refine v_ic_ne (t := 38) (n := 34) xB_113 dX10_isKindOrUnder_31 (by decide) rfl rfl (fun g10 => ?_) (fun g10 => ?_)
              · refine v_iconst (n := 39) xB_113 dX10_isKindOrUnder_38 ⟨by decide, by decide⟩ rfl ?_
                refine v_ireturn1 xB_113 dX10_isKindOrUnder_39 xK_113 (by decide) ?_
                first | exact o1 (by first | omega | (simp only [sA_same, sA_s, ud_s, Int.reduceEq, if_true, if_false, ite_true, ite_false, ↓reduceIte, and_true, true_and, eq_self, Int.add_zero, Int.reduceAdd]; omega) | (simp (disch := omega) only [sA_same, sA_ne, ud_eq, ud_ne, Int.add_zero, Int.reduceAdd]; omega)) | exact o2 (by first | omega | (simp only [sA_same, sA_s, ud_s, Int.reduceEq, if_true, if_false, ite_true, ite_false, ↓reduceIte, and_true, true_and, eq_self, Int.add_zero, Int.reduceAdd]; omega) | (simp (disch := omega) only [sA_same, sA_ne, ud_eq, ud_ne, Int.add_zero, Int.reduceAdd]; omega))
              · refine v_iconst (n := 35) xB_113 dX10_isKindOrUnder_34 ⟨by decide, by decide⟩ rfl ?_
                refine v_goto (t := 39) xB_113 dX10_isKindOrUnder_35 (by decide) rfl ?_
                refine v_ireturn1 xB_113 dX10_isKindOrUnder_39 xK_113 (by decide) ?_
                first | exact o1 (by first | omega | (simp only [sA_same, sA_s, ud_s, Int.reduceEq, if_true, if_false, ite_true, ite_false, ↓reduceIte, and_true, true_and, eq_self, Int.add_zero, Int.reduceAdd]; omega) | (simp (disch := omega) only [sA_same, sA_ne, ud_eq, ud_ne, Int.add_zero, Int.reduceAdd]; omega)) | exact o2 (by first | omega | (simp only [sA_same, sA_s, ud_s, Int.reduceEq, if_true, if_false, ite_true, ite_false, ↓reduceIte, and_true, true_and, eq_self, Int.add_zero, Int.reduceAdd]; omega) | (simp (disch := omega) only [sA_same, sA_ne, ud_eq, ud_ne, Int.add_zero, Int.reduceAdd]; omega))
            · refine v_gst_0 (n := 20) xB_113 dX10_isKindOrUnder_17 xO_113 gs_10_291 rfl ?_
              refine v_iload_n (n := 21) xB_113 dX10_isKindOrUnder_20 rfl rfl ?_
              refine v_iaload (n := 22) (lz := 7) xB_113 dX10_isKindOrUnder_21 (sh_ka _ _ _) rfl (by first | omega | (simp only [sA_same, sA_s, ud_s, Int.reduceEq, if_true, if_false, ite_true, ite_false, ↓reduceIte, and_true, true_and, eq_self, Int.add_zero, Int.reduceAdd]; omega) | (simp (disch := omega) only [sA_same, sA_ne, ud_eq, ud_ne, Int.add_zero, Int.reduceAdd]; omega)) rfl ?_
              (try simp only [K0, K1, K2, K3, K4, K5, K6])
              refine v_istore_n2 (n := 23) xB_113 dX10_isKindOrUnder_22 rfl rfl ?_
              refine v_iinc3 (n := 26) xB_113 dX10_isKindOrUnder_23 rfl (by first | omega | (simp only [sA_same, sA_s, ud_s, Int.reduceEq, if_true, if_false, ite_true, ite_false, ↓reduceIte, and_true, true_and, eq_self, Int.add_zero, Int.reduceAdd]; omega) | (simp (disch := omega) only [sA_same, sA_ne, ud_eq, ud_ne, Int.add_zero, Int.reduceAdd]; omega)) rfl ?_
              refine v_goto (t := 4) xB_113 dX10_isKindOrUnder_26 (by decide) rfl ?_
              refine v_iload_n (n := 5) xB_113 dX10_isKindOrUnder_4 rfl rfl ?_
              refine v_gst_0 (n := 8) xB_113 dX10_isKindOrUnder_5 xO_113 gs_10_291 rfl ?_
              refine v_alen (n := 9) (lz := 7) xB_113 dX10_isKindOrUnder_8 (sh_ka _ _ _) (by decide) rfl rfl ?_
              refine v_ic_ge_n (n := 12) xB_113 dX10_isKindOrUnder_9 (by decide) rfl (by decide) ?_
              refine v_iload_n (n := 13) xB_113 dX10_isKindOrUnder_12 rfl rfl ?_
              refine v_iload_n (n := 14) xB_113 dX10_isKindOrUnder_13 rfl rfl ?_
              refine v_ic_le (t := 29) (n := 17) xB_113 dX10_isKindOrUnder_14 (by decide) rfl rfl (fun g11 => ?_) (fun g11 => ?_)
              · refine v_iload_n (n := 30) xB_113 dX10_isKindOrUnder_29 rfl rfl ?_
                refine v_iload_n (n := 31) xB_113 dX10_isKindOrUnder_30 rfl rfl ?_
                refine v_ic_ne (t := 38) (n := 34) xB_113 dX10_isKindOrUnder_31 (by decide) rfl rfl (fun g12 => ?_) (fun g12 => ?_)
                · refine v_iconst (n := 39) xB_113 dX10_isKindOrUnder_38 ⟨by decide, by decide⟩ rfl ?_
                  refine v_ireturn1 xB_113 dX10_isKindOrUnder_39 xK_113 (by decide) ?_
                  first | exact o1 (by first | omega | (simp only [sA_same, sA_s, ud_s, Int.reduceEq, if_true, if_false, ite_true, ite_false, ↓reduceIte, and_true, true_and, eq_self, Int.add_zero, Int.reduceAdd]; omega) | (simp (disch := omega) only [sA_same, sA_ne, ud_eq, ud_ne, Int.add_zero, Int.reduceAdd]; omega)) | exact o2 (by first | omega | (simp only [sA_same, sA_s, ud_s, Int.reduceEq, if_true, if_false, ite_true, ite_false, ↓reduceIte, and_true, true_and, eq_self, Int.add_zero, Int.reduceAdd]; omega) | (simp (disch := omega) only [sA_same, sA_ne, ud_eq, ud_ne, Int.add_zero, Int.reduceAdd]; omega))
                · refine v_iconst (n := 35) xB_113 dX10_isKindOrUnder_34 ⟨by decide, by decide⟩ rfl ?_
                  refine v_goto (t := 39) xB_113 dX10_isKindOrUnder_35 (by decide) rfl ?_
                  refine v_ireturn1 xB_113 dX10_isKindOrUnder_39 xK_113 (by decide) ?_
                  first | exact o1 (by first | omega | (simp only [sA_same, sA_s, ud_s, Int.reduceEq, if_true, if_false, ite_true, ite_false, ↓reduceIte, and_true, true_and, eq_self, Int.add_zero, Int.reduceAdd]; omega) | (simp (disch := omega) only [sA_same, sA_ne, ud_eq, ud_ne, Int.add_zero, Int.reduceAdd]; omega)) | exact o2 (by first | omega | (simp only [sA_same, sA_s, ud_s, Int.reduceEq, if_true, if_false, ite_true, ite_false, ↓reduceIte, and_true, true_and, eq_self, Int.add_zero, Int.reduceAdd]; omega) | (simp (disch := omega) only [sA_same, sA_ne, ud_eq, ud_ne, Int.add_zero, Int.reduceAdd]; omega))
              · refine v_gst_0 (n := 20) xB_113 dX10_isKindOrUnder_17 xO_113 gs_10_291 rfl ?_
                refine v_iload_n (n := 21) xB_113 dX10_isKindOrUnder_20 rfl rfl ?_
                refine v_iaload (n := 22) (lz := 7) xB_113 dX10_isKindOrUnder_21 (sh_ka _ _ _) rfl (by first | omega | (simp only [sA_same, sA_s, ud_s, Int.reduceEq, if_true, if_false, ite_true, ite_false, ↓reduceIte, and_true, true_and, eq_self, Int.add_zero, Int.reduceAdd]; omega) | (simp (disch := omega) only [sA_same, sA_ne, ud_eq, ud_ne, Int.add_zero, Int.reduceAdd]; omega)) rfl ?_
                (try simp only [K0, K1, K2, K3, K4, K5, K6])
                refine v_istore_n2 (n := 23) xB_113 dX10_isKindOrUnder_22 rfl rfl ?_
                refine v_iinc3 (n := 26) xB_113 dX10_isKindOrUnder_23 rfl (by first | omega | (simp only [sA_same, sA_s, ud_s, Int.reduceEq, if_true, if_false, ite_true, ite_false, ↓reduceIte, and_true, true_and, eq_self, Int.add_zero, Int.reduceAdd]; omega) | (simp (disch := omega) only [sA_same, sA_ne, ud_eq, ud_ne, Int.add_zero, Int.reduceAdd]; omega)) rfl ?_
                refine v_goto (t := 4) xB_113 dX10_isKindOrUnder_26 (by decide) rfl ?_
                refine v_iload_n (n := 5) xB_113 dX10_isKindOrUnder_4 rfl rfl ?_
                refine v_gst_0 (n := 8) xB_113 dX10_isKindOrUnder_5 xO_113 gs_10_291 rfl ?_
                refine v_alen (n := 9) (lz := 7) xB_113 dX10_isKindOrUnder_8 (sh_ka _ _ _) (by decide) rfl rfl ?_
                refine v_ic_ge_n (n := 12) xB_113 dX10_isKindOrUnder_9 (by decide) rfl (by decide) ?_
                refine v_iload_n (n := 13) xB_113 dX10_isKindOrUnder_12 rfl rfl ?_
                refine v_iload_n (n := 14) xB_113 dX10_isKindOrUnder_13 rfl rfl ?_
                refine v_ic_le (t := 29) (n := 17) xB_113 dX10_isKindOrUnder_14 (by decide) rfl rfl (fun g13 => ?_) (fun g13 => ?_)
                · refine v_iload_n (n := 30) xB_113 dX10_isKindOrUnder_29 rfl rfl ?_
                  refine v_iload_n (n := 31) xB_113 dX10_isKindOrUnder_30 rfl rfl ?_
                  refine v_ic_ne (t := 38) (n := 34) xB_113 dX10_isKindOrUnder_31 (by decide) rfl rfl (fun g14 => ?_) (fun g14 => ?_)
                  · refine v_iconst (n := 39) xB_113 dX10_isKindOrUnder_38 ⟨by decide, by decide⟩ rfl ?_
                    refine v_ireturn1 xB_113 dX10_isKindOrUnder_39 xK_113 (by decide) ?_
                    first | exact o1 (by first | omega | (simp only [sA_same, sA_s, ud_s, Int.reduceEq, if_true, if_false, ite_true, ite_false, ↓reduceIte, and_true, true_and, eq_self, Int.add_zero, Int.reduceAdd]; omega) | (simp (disch := omega) only [sA_same, sA_ne, ud_eq, ud_ne, Int.add_zero, Int.reduceAdd]; omega)) | exact o2 (by first | omega | (simp only [sA_same, sA_s, ud_s, Int.reduceEq, if_true, if_false, ite_true, ite_false, ↓reduceIte, and_true, true_and, eq_self, Int.add_zero, Int.reduceAdd]; omega) | (simp (disch := omega) only [sA_same, sA_ne, ud_eq, ud_ne, Int.add_zero, Int.reduceAdd]; omega))
                  · refine v_iconst (n := 35) xB_113 dX10_isKindOrUnder_34 ⟨by decide, by decide⟩ rfl ?_
                    refine v_goto (t := 39) xB_113 dX10_isKindOrUnder_35 (by decide) rfl ?_
                    refine v_ireturn1 xB_113 dX10_isKindOrUnder_39 xK_113 (by decide) ?_
                    first | exact o1 (by first | omega | (simp only [sA_same, sA_s, ud_s, Int.reduceEq, if_true, if_false, ite_true, ite_false, ↓reduceIte, and_true, true_and, eq_self, Int.add_zero, Int.reduceAdd]; omega) | (simp (disch := omega) only [sA_same, sA_ne, ud_eq, ud_ne, Int.add_zero, Int.reduceAdd]; omega)) | exact o2 (by first | omega | (simp only [sA_same, sA_s, ud_s, Int.reduceEq, if_true, if_false, ite_true, ite_false, ↓reduceIte, and_true, true_and, eq_self, Int.add_zero, Int.reduceAdd]; omega) | (simp (disch := omega) only [sA_same, sA_ne, ud_eq, ud_ne, Int.add_zero, Int.reduceAdd]; omega))
                · refine v_gst_0 (n := 20) xB_113 dX10_isKindOrUnder_17 xO_113 gs_10_291 rfl ?_
                  refine v_iload_n (n := 21) xB_113 dX10_isKindOrUnder_20 rfl rfl ?_
                  refine v_iaload (n := 22) (lz := 7) xB_113 dX10_isKindOrUnder_21 (sh_ka _ _ _) rfl (by first | omega | (simp only [sA_same, sA_s, ud_s, Int.reduceEq, if_true, if_false, ite_true, ite_false, ↓reduceIte, and_true, true_and, eq_self, Int.add_zero, Int.reduceAdd]; omega) | (simp (disch := omega) only [sA_same, sA_ne, ud_eq, ud_ne, Int.add_zero, Int.reduceAdd]; omega)) rfl ?_
                  (try simp only [K0, K1, K2, K3, K4, K5, K6])
                  refine v_istore_n2 (n := 23) xB_113 dX10_isKindOrUnder_22 rfl rfl ?_
                  refine v_iinc3 (n := 26) xB_113 dX10_isKindOrUnder_23 rfl (by first | omega | (simp only [sA_same, sA_s, ud_s, Int.reduceEq, if_true, if_false, ite_true, ite_false, ↓reduceIte, and_true, true_and, eq_self, Int.add_zero, Int.reduceAdd]; omega) | (simp (disch := omega) only [sA_same, sA_ne, ud_eq, ud_ne, Int.add_zero, Int.reduceAdd]; omega)) rfl ?_
                  refine v_goto (t := 4) xB_113 dX10_isKindOrUnder_26 (by decide) rfl ?_
                  refine v_iload_n (n := 5) xB_113 dX10_isKindOrUnder_4 rfl rfl ?_
                  refine v_gst_0 (n := 8) xB_113 dX10_isKindOrUnder_5 xO_113 gs_10_291 rfl ?_
                  refine v_alen (n := 9) (lz := 7) xB_113 dX10_isKindOrUnder_8 (sh_ka _ _ _) (by decide) rfl rfl ?_
                  refine v_ic_ge_y (t := 29) xB_113 dX10_isKindOrUnder_9 (by decide) rfl (by decide) ?_
                  refine v_iload_n (n := 30) xB_113 dX10_isKindOrUnder_29 rfl rfl ?_
                  refine v_iload_n (n := 31) xB_113 dX10_isKindOrUnder_30 rfl rfl ?_
                  refine v_ic_ne (t := 38) (n := 34) xB_113 dX10_isKindOrUnder_31 (by decide) rfl rfl (fun g15 => ?_) (fun g15 => ?_)
                  · refine v_iconst (n := 39) xB_113 dX10_isKindOrUnder_38 ⟨by decide, by decide⟩ rfl ?_
                    refine v_ireturn1 xB_113 dX10_isKindOrUnder_39 xK_113 (by decide) ?_
                    first | exact o1 (by first | omega | (simp only [sA_same, sA_s, ud_s, Int.reduceEq, if_true, if_false, ite_true, ite_false, ↓reduceIte, and_true, true_and, eq_self, Int.add_zero, Int.reduceAdd]; omega) | (simp (disch := omega) only [sA_same, sA_ne, ud_eq, ud_ne, Int.add_zero, Int.reduceAdd]; omega)) | exact o2 (by first | omega | (simp only [sA_same, sA_s, ud_s, Int.reduceEq, if_true, if_false, ite_true, ite_false, ↓reduceIte, and_true, true_and, eq_self, Int.add_zero, Int.reduceAdd]; omega) | (simp (disch := omega) only [sA_same, sA_ne, ud_eq, ud_ne, Int.add_zero, Int.reduceAdd]; omega))
                  · refine v_iconst (n := 35) xB_113 dX10_isKindOrUnder_34 ⟨by decide, by decide⟩ rfl ?_
                    refine v_goto (t := 39) xB_113 dX10_isKindOrUnder_35 (by decide) rfl ?_
                    refine v_ireturn1 xB_113 dX10_isKindOrUnder_39 xK_113 (by decide) ?_
                    first | exact o1 (by first | omega | (simp only [sA_same, sA_s, ud_s, Int.reduceEq, if_true, if_false, ite_true, ite_false, ↓reduceIte, and_true, true_and, eq_self, Int.add_zero, Int.reduceAdd]; omega) | (simp (disch := omega) only [sA_same, sA_ne, ud_eq, ud_ne, Int.add_zero, Int.reduceAdd]; omega)) | exact o2 (by first | omega | (simp only [sA_same, sA_s, ud_s, Int.reduceEq, if_true, if_false, ite_true, ite_false, ↓reduceIte, and_true, true_and, eq_self, Int.add_zero, Int.reduceAdd]; omega) | (simp (disch := omega) only [sA_same, sA_ne, ud_eq, ud_ne, Int.add_zero, Int.reduceAdd]; omega))
  · subst hx
    refine v_iload_n (n := 1) xB_113 dX10_isKindOrUnder_0 rfl rfl ?_
    refine v_istore_n2 (n := 2) xB_113 dX10_isKindOrUnder_1 rfl rfl ?_
    refine v_iconst (n := 3) xB_113 dX10_isKindOrUnder_2 ⟨by decide, by decide⟩ rfl ?_
    refine v_istore_n3 (n := 4) xB_113 dX10_isKindOrUnder_3 rfl rfl ?_
    refine v_iload_n (n := 5) xB_113 dX10_isKindOrUnder_4 rfl rfl ?_
    refine v_gst_0 (n := 8) xB_113 dX10_isKindOrUnder_5 xO_113 gs_10_291 rfl ?_
    refine v_alen (n := 9) (lz := 7) xB_113 dX10_isKindOrUnder_8 (sh_ka _ _ _) (by decide) rfl rfl ?_
    refine v_ic_ge_n (n := 12) xB_113 dX10_isKindOrUnder_9 (by decide) rfl (by decide) ?_
    refine v_iload_n (n := 13) xB_113 dX10_isKindOrUnder_12 rfl rfl ?_
    refine v_iload_n (n := 14) xB_113 dX10_isKindOrUnder_13 rfl rfl ?_
    refine v_ic_le (t := 29) (n := 17) xB_113 dX10_isKindOrUnder_14 (by decide) rfl rfl (fun g1 => ?_) (fun g1 => ?_)
    · refine v_iload_n (n := 30) xB_113 dX10_isKindOrUnder_29 rfl rfl ?_
      refine v_iload_n (n := 31) xB_113 dX10_isKindOrUnder_30 rfl rfl ?_
      refine v_ic_ne (t := 38) (n := 34) xB_113 dX10_isKindOrUnder_31 (by decide) rfl rfl (fun g2 => ?_) (fun g2 => ?_)
      · refine v_iconst (n := 39) xB_113 dX10_isKindOrUnder_38 ⟨by decide, by decide⟩ rfl ?_
        refine v_ireturn1 xB_113 dX10_isKindOrUnder_39 xK_113 (by decide) ?_
        first | exact o1 (by first | omega | (simp only [sA_same, sA_s, ud_s, Int.reduceEq, if_true, if_false, ite_true, ite_false, ↓reduceIte, and_true, true_and, eq_self, Int.add_zero, Int.reduceAdd]; omega) | (simp (disch := omega) only [sA_same, sA_ne, ud_eq, ud_ne, Int.add_zero, Int.reduceAdd]; omega)) | exact o2 (by first | omega | (simp only [sA_same, sA_s, ud_s, Int.reduceEq, if_true, if_false, ite_true, ite_false, ↓reduceIte, and_true, true_and, eq_self, Int.add_zero, Int.reduceAdd]; omega) | (simp (disch := omega) only [sA_same, sA_ne, ud_eq, ud_ne, Int.add_zero, Int.reduceAdd]; omega))
      · refine v_iconst (n := 35) xB_113 dX10_isKindOrUnder_34 ⟨by decide, by decide⟩ rfl ?_
        refine v_goto (t := 39) xB_113 dX10_isKindOrUnder_35 (by decide) rfl ?_
        refine v_ireturn1 xB_113 dX10_isKindOrUnder_39 xK_113 (by decide) ?_
        first | exact o1 (by first | omega | (simp only [sA_same, sA_s, ud_s, Int.reduceEq, if_true, if_false, ite_true, ite_false, ↓reduceIte, and_true, true_and, eq_self, Int.add_zero, Int.reduceAdd]; omega) | (simp (disch := omega) only [sA_same, sA_ne, ud_eq, ud_ne, Int.add_zero, Int.reduceAdd]; omega)) | exact o2 (by first | omega | (simp only [sA_same, sA_s, ud_s, Int.reduceEq, if_true, if_false, ite_true, ite_false, ↓reduceIte, and_true, true_and, eq_self, Int.add_zero, Int.reduceAdd]; omega) | (simp (disch := omega) only [sA_same, sA_ne, ud_eq, ud_ne, Int.add_zero, Int.reduceAdd]; omega))
    · refine v_gst_0 (n := 20) xB_113 dX10_isKindOrUnder_17 xO_113 gs_10_291 rfl ?_
      refine v_iload_n (n := 21) xB_113 dX10_isKindOrUnder_20 rfl rfl ?_
      refine v_iaload (n := 22) (lz := 7) xB_113 dX10_isKindOrUnder_21 (sh_ka _ _ _) rfl (by first | omega | (simp only [sA_same, sA_s, ud_s, Int.reduceEq, if_true, if_false, ite_true, ite_false, ↓reduceIte, and_true, true_and, eq_self, Int.add_zero, Int.reduceAdd]; omega) | (simp (disch := omega) only [sA_same, sA_ne, ud_eq, ud_ne, Int.add_zero, Int.reduceAdd]; omega)) rfl ?_
      (try simp only [K0, K1, K2, K3, K4, K5, K6])
      refine v_istore_n2 (n := 23) xB_113 dX10_isKindOrUnder_22 rfl rfl ?_
      refine v_iinc3 (n := 26) xB_113 dX10_isKindOrUnder_23 rfl (by first | omega | (simp only [sA_same, sA_s, ud_s, Int.reduceEq, if_true, if_false, ite_true, ite_false, ↓reduceIte, and_true, true_and, eq_self, Int.add_zero, Int.reduceAdd]; omega) | (simp (disch := omega) only [sA_same, sA_ne, ud_eq, ud_ne, Int.add_zero, Int.reduceAdd]; omega)) rfl ?_
      refine v_goto (t := 4) xB_113 dX10_isKindOrUnder_26 (by decide) rfl ?_
      refine v_iload_n (n := 5) xB_113 dX10_isKindOrUnder_4 rfl rfl ?_
      refine v_gst_0 (n := 8) xB_113 dX10_isKindOrUnder_5 xO_113 gs_10_291 rfl ?_
      refine v_alen (n := 9) (lz := 7) xB_113 dX10_isKindOrUnder_8 (sh_ka _ _ _) (by decide) rfl rfl ?_
      refine v_ic_ge_n (n := 12) xB_113 dX10_isKindOrUnder_9 (by decide) rfl (by decide) ?_
      refine v_iload_n (n := 13) xB_113 dX10_isKindOrUnder_12 rfl rfl ?_
      refine v_iload_n (n := 14) xB_113 dX10_isKindOrUnder_13 rfl rfl ?_
      refine v_ic_le (t := 29) (n := 17) xB_113 dX10_isKindOrUnder_14 (by decide) rfl rfl (fun g3 => ?_) (fun g3 => ?_)
      · refine v_iload_n (n := 30) xB_113 dX10_isKindOrUnder_29 rfl rfl ?_
        refine v_iload_n (n := 31) xB_113 dX10_isKindOrUnder_30 rfl rfl ?_
        refine v_ic_ne (t := 38) (n := 34) xB_113 dX10_isKindOrUnder_31 (by decide) rfl rfl (fun g4 => ?_) (fun g4 => ?_)
        · refine v_iconst (n := 39) xB_113 dX10_isKindOrUnder_38 ⟨by decide, by decide⟩ rfl ?_
          refine v_ireturn1 xB_113 dX10_isKindOrUnder_39 xK_113 (by decide) ?_
          first | exact o1 (by first | omega | (simp only [sA_same, sA_s, ud_s, Int.reduceEq, if_true, if_false, ite_true, ite_false, ↓reduceIte, and_true, true_and, eq_self, Int.add_zero, Int.reduceAdd]; omega) | (simp (disch := omega) only [sA_same, sA_ne, ud_eq, ud_ne, Int.add_zero, Int.reduceAdd]; omega)) | exact o2 (by first | omega | (simp only [sA_same, sA_s, ud_s, Int.reduceEq, if_true, if_false, ite_true, ite_false, ↓reduceIte, and_true, true_and, eq_self, Int.add_zero, Int.reduceAdd]; omega) | (simp (disch := omega) only [sA_same, sA_ne, ud_eq, ud_ne, Int.add_zero, Int.reduceAdd]; omega))
        · refine v_iconst (n := 35) xB_113 dX10_isKindOrUnder_34 ⟨by decide, by decide⟩ rfl ?_
          refine v_goto (t := 39) xB_113 dX10_isKindOrUnder_35 (by decide) rfl ?_
          refine v_ireturn1 xB_113 dX10_isKindOrUnder_39 xK_113 (by decide) ?_
          first | exact o1 (by first | omega | (simp only [sA_same, sA_s, ud_s, Int.reduceEq, if_true, if_false, ite_true, ite_false, ↓reduceIte, and_true, true_and, eq_self, Int.add_zero, Int.reduceAdd]; omega) | (simp (disch := omega) only [sA_same, sA_ne, ud_eq, ud_ne, Int.add_zero, Int.reduceAdd]; omega)) | exact o2 (by first | omega | (simp only [sA_same, sA_s, ud_s, Int.reduceEq, if_true, if_false, ite_true, ite_false, ↓reduceIte, and_true, true_and, eq_self, Int.add_zero, Int.reduceAdd]; omega) | (simp (disch := omega) only [sA_same, sA_ne, ud_eq, ud_ne, Int.add_zero, Int.reduceAdd]; omega))
      · refine v_gst_0 (n := 20) xB_113 dX10_isKindOrUnder_17 xO_113 gs_10_291 rfl ?_
        refine v_iload_n (n := 21) xB_113 dX10_isKindOrUnder_20 rfl rfl ?_
        refine v_iaload (n := 22) (lz := 7) xB_113 dX10_isKindOrUnder_21 (sh_ka _ _ _) rfl (by first | omega | (simp only [sA_same, sA_s, ud_s, Int.reduceEq, if_true, if_false, ite_true, ite_false, ↓reduceIte, and_true, true_and, eq_self, Int.add_zero, Int.reduceAdd]; omega) | (simp (disch := omega) only [sA_same, sA_ne, ud_eq, ud_ne, Int.add_zero, Int.reduceAdd]; omega)) rfl ?_
        (try simp only [K0, K1, K2, K3, K4, K5, K6])
        refine v_istore_n2 (n := 23) xB_113 dX10_isKindOrUnder_22 rfl rfl ?_
        refine v_iinc3 (n := 26) xB_113 dX10_isKindOrUnder_23 rfl (by first | omega | (simp only [sA_same, sA_s, ud_s, Int.reduceEq, if_true, if_false, ite_true, ite_false, ↓reduceIte, and_true, true_and, eq_self, Int.add_zero, Int.reduceAdd]; omega) | (simp (disch := omega) only [sA_same, sA_ne, ud_eq, ud_ne, Int.add_zero, Int.reduceAdd]; omega)) rfl ?_
        refine v_goto (t := 4) xB_113 dX10_isKindOrUnder_26 (by decide) rfl ?_
        refine v_iload_n (n := 5) xB_113 dX10_isKindOrUnder_4 rfl rfl ?_
        refine v_gst_0 (n := 8) xB_113 dX10_isKindOrUnder_5 xO_113 gs_10_291 rfl ?_
        refine v_alen (n := 9) (lz := 7) xB_113 dX10_isKindOrUnder_8 (sh_ka _ _ _) (by decide) rfl rfl ?_
        refine v_ic_ge_n (n := 12) xB_113 dX10_isKindOrUnder_9 (by decide) rfl (by decide) ?_
        refine v_iload_n (n := 13) xB_113 dX10_isKindOrUnder_12 rfl rfl ?_
        refine v_iload_n (n := 14) xB_113 dX10_isKindOrUnder_13 rfl rfl ?_
        refine v_ic_le (t := 29) (n := 17) xB_113 dX10_isKindOrUnder_14 (by decide) rfl rfl (fun g5 => ?_) (fun g5 => ?_)
        · refine v_iload_n (n := 30) xB_113 dX10_isKindOrUnder_29 rfl rfl ?_
          refine v_iload_n (n := 31) xB_113 dX10_isKindOrUnder_30 rfl rfl ?_
          refine v_ic_ne (t := 38) (n := 34) xB_113 dX10_isKindOrUnder_31 (by decide) rfl rfl (fun g6 => ?_) (fun g6 => ?_)
          · refine v_iconst (n := 39) xB_113 dX10_isKindOrUnder_38 ⟨by decide, by decide⟩ rfl ?_
            refine v_ireturn1 xB_113 dX10_isKindOrUnder_39 xK_113 (by decide) ?_
            first | exact o1 (by first | omega | (simp only [sA_same, sA_s, ud_s, Int.reduceEq, if_true, if_false, ite_true, ite_false, ↓reduceIte, and_true, true_and, eq_self, Int.add_zero, Int.reduceAdd]; omega) | (simp (disch := omega) only [sA_same, sA_ne, ud_eq, ud_ne, Int.add_zero, Int.reduceAdd]; omega)) | exact o2 (by first | omega | (simp only [sA_same, sA_s, ud_s, Int.reduceEq, if_true, if_false, ite_true, ite_false, ↓reduceIte, and_true, true_and, eq_self, Int.add_zero, Int.reduceAdd]; omega) | (simp (disch := omega) only [sA_same, sA_ne, ud_eq, ud_ne, Int.add_zero, Int.reduceAdd]; omega))
          · refine v_iconst (n := 35) xB_113 dX10_isKindOrUnder_34 ⟨by decide, by decide⟩ rfl ?_
            refine v_goto (t := 39) xB_113 dX10_isKindOrUnder_35 (by decide) rfl ?_
            refine v_ireturn1 xB_113 dX10_isKindOrUnder_39 xK_113 (by decide) ?_
            first | exact o1 (by first | omega | (simp only [sA_same, sA_s, ud_s, Int.reduceEq, if_true, if_false, ite_true, ite_false, ↓reduceIte, and_true, true_and, eq_self, Int.add_zero, Int.reduceAdd]; omega) | (simp (disch := omega) only [sA_same, sA_ne, ud_eq, ud_ne, Int.add_zero, Int.reduceAdd]; omega)) | exact o2 (by first | omega | (simp only [sA_same, sA_s, ud_s, Int.reduceEq, if_true, if_false, ite_true, ite_false, ↓reduceIte, and_true, true_and, eq_self, Int.add_zero, Int.reduceAdd]; omega) | (simp (disch := omega) only [sA_same, sA_ne, ud_eq, ud_ne, Int.add_zero, Int.reduceAdd]; omega))
        · refine v_gst_0 (n := 20) xB_113 dX10_isKindOrUnder_17 xO_113 gs_10_291 rfl ?_
          refine v_iload_n (n := 21) xB_113 dX10_isKindOrUnder_20 rfl rfl ?_
          refine v_iaload (n := 22) (lz := 7) xB_113 dX10_isKindOrUnder_21 (sh_ka _ _ _) rfl (by first | omega | (simp only [sA_same, sA_s, ud_s, Int.reduceEq, if_true, if_false, ite_true, ite_false, ↓reduceIte, and_true, true_and, eq_self, Int.add_zero, Int.reduceAdd]; omega) | (simp (disch := omega) only [sA_same, sA_ne, ud_eq, ud_ne, Int.add_zero, Int.reduceAdd]; omega)) rfl ?_
          (try simp only [K0, K1, K2, K3, K4, K5, K6])
          refine v_istore_n2 (n := 23) xB_113 dX10_isKindOrUnder_22 rfl rfl ?_
          refine v_iinc3 (n := 26) xB_113 dX10_isKindOrUnder_23 rfl (by first | omega | (simp only [sA_same, sA_s, ud_s, Int.reduceEq, if_true, if_false, ite_true, ite_false, ↓reduceIte, and_true, true_and, eq_self, Int.add_zero, Int.reduceAdd]; omega) | (simp (disch := omega) only [sA_same, sA_ne, ud_eq, ud_ne, Int.add_zero, Int.reduceAdd]; omega)) rfl ?_
          refine v_goto (t := 4) xB_113 dX10_isKindOrUnder_26 (by decide) rfl ?_
          refine v_iload_n (n := 5) xB_113 dX10_isKindOrUnder_4 rfl rfl ?_
          refine v_gst_0 (n := 8) xB_113 dX10_isKindOrUnder_5 xO_113 gs_10_291 rfl ?_
          refine v_alen (n := 9) (lz := 7) xB_113 dX10_isKindOrUnder_8 (sh_ka _ _ _) (by decide) rfl rfl ?_
          refine v_ic_ge_n (n := 12) xB_113 dX10_isKindOrUnder_9 (by decide) rfl (by decide) ?_
          refine v_iload_n (n := 13) xB_113 dX10_isKindOrUnder_12 rfl rfl ?_
          refine v_iload_n (n := 14) xB_113 dX10_isKindOrUnder_13 rfl rfl ?_
          refine v_ic_le (t := 29) (n := 17) xB_113 dX10_isKindOrUnder_14 (by decide) rfl rfl (fun g7 => ?_) (fun g7 => ?_)
          · refine v_iload_n (n := 30) xB_113 dX10_isKindOrUnder_29 rfl rfl ?_
            refine v_iload_n (n := 31) xB_113 dX10_isKindOrUnder_30 rfl rfl ?_
            refine v_ic_ne (t := 38) (n := 34) xB_113 dX10_isKindOrUnder_31 (by decide) rfl rfl (fun g8 => ?_) (fun g8 => ?_)
            · refine v_iconst (n := 39) xB_113 dX10_isKindOrUnder_38 ⟨by decide, by decide⟩ rfl ?_
              refine v_ireturn1 xB_113 dX10_isKindOrUnder_39 xK_113 (by decide) ?_
              first | exact o1 (by first | omega | (simp only [sA_same, sA_s, ud_s, Int.reduceEq, if_true, if_false, ite_true, ite_false, ↓reduceIte, and_true, true_and, eq_self, Int.add_zero, Int.reduceAdd]; omega) | (simp (disch := omega) only [sA_same, sA_ne, ud_eq, ud_ne, Int.add_zero, Int.reduceAdd]; omega)) | exact o2 (by first | omega | (simp only [sA_same, sA_s, ud_s, Int.reduceEq, if_true, if_false, ite_true, ite_false, ↓reduceIte, and_true, true_and, eq_self, Int.add_zero, Int.reduceAdd]; omega) | (simp (disch := omega) only [sA_same, sA_ne, ud_eq, ud_ne, Int.add_zero, Int.reduceAdd]; omega))
            · refine v_iconst (n := 35) xB_113 dX10_isKindOrUnder_34 ⟨by decide, by decide⟩ rfl ?_
              refine v_goto (t := 39) xB_113 dX10_isKindOrUnder_35 (by decide) rfl ?_
              refine v_ireturn1 xB_113 dX10_isKindOrUnder_39 xK_113 (by decide) ?_
              first | exact o1 (by first | omega | (simp only [sA_same, sA_s, ud_s, Int.reduceEq, if_true, if_false, ite_true, ite_false, ↓reduceIte, and_true, true_and, eq_self, Int.add_zero, Int.reduceAdd]; omega) | (simp (disch := omega) only [sA_same, sA_ne, ud_eq, ud_ne, Int.add_zero, Int.reduceAdd]; omega)) | exact o2 (by first | omega | (simp only [sA_same, sA_s, ud_s, Int.reduceEq, if_true, if_false, ite_true, ite_false, ↓reduceIte, and_true, true_and, eq_self, Int.add_zero, Int.reduceAdd]; omega) | (simp (disch := omega) only [sA_same, sA_ne, ud_eq, ud_ne, Int.add_zero, Int.reduceAdd]; omega))
          · refine v_gst_0 (n := 20) xB_113 dX10_isKindOrUnder_17 xO_113 gs_10_291 rfl ?_
            refine v_iload_n (n := 21) xB_113 dX10_isKindOrUnder_20 rfl rfl ?_
            refine v_iaload (n := 22) (lz := 7) xB_113 dX10_isKindOrUnder_21 (sh_ka _ _ _) rfl (by first | omega | (simp only [sA_same, sA_s, ud_s, Int.reduceEq, if_true, if_false, ite_true, ite_false, ↓reduceIte, and_true, true_and, eq_self, Int.add_zero, Int.reduceAdd]; omega) | (simp (disch := omega) only [sA_same, sA_ne, ud_eq, ud_ne, Int.add_zero, Int.reduceAdd]; omega)) rfl ?_
            (try simp only [K0, K1, K2, K3, K4, K5, K6])
            refine v_istore_n2 (n := 23) xB_113 dX10_isKindOrUnder_22 rfl rfl ?_
            refine v_iinc3 (n := 26) xB_113 dX10_isKindOrUnder_23 rfl (by first | omega | (simp only [sA_same, sA_s, ud_s, Int.reduceEq, if_true, if_false, ite_true, ite_false, ↓reduceIte, and_true, true_and, eq_self, Int.add_zero, Int.reduceAdd]; omega) | (simp (disch := omega) only [sA_same, sA_ne, ud_eq, ud_ne, Int.add_zero, Int.reduceAdd]; omega)) rfl ?_
            refine v_goto (t := 4) xB_113 dX10_isKindOrUnder_26 (by decide) rfl ?_
            refine v_iload_n (n := 5) xB_113 dX10_isKindOrUnder_4 rfl rfl ?_
            refine v_gst_0 (n := 8) xB_113 dX10_isKindOrUnder_5 xO_113 gs_10_291 rfl ?_
            refine v_alen (n := 9) (lz := 7) xB_113 dX10_isKindOrUnder_8 (sh_ka _ _ _) (by decide) rfl rfl ?_
            refine v_ic_ge_n (n := 12) xB_113 dX10_isKindOrUnder_9 (by decide) rfl (by decide) ?_
            refine v_iload_n (n := 13) xB_113 dX10_isKindOrUnder_12 rfl rfl ?_
            refine v_iload_n (n := 14) xB_113 dX10_isKindOrUnder_13 rfl rfl ?_
            refine v_ic_le (t := 29) (n := 17) xB_113 dX10_isKindOrUnder_14 (by decide) rfl rfl (fun g9 => ?_) (fun g9 => ?_)
            · refine v_iload_n (n := 30) xB_113 dX10_isKindOrUnder_29 rfl rfl ?_
              refine v_iload_n (n := 31) xB_113 dX10_isKindOrUnder_30 rfl rfl ?_
              refine v_ic_ne (t := 38) (n := 34) xB_113 dX10_isKindOrUnder_31 (by decide) rfl rfl (fun g10 => ?_) (fun g10 => ?_)
              · refine v_iconst (n := 39) xB_113 dX10_isKindOrUnder_38 ⟨by decide, by decide⟩ rfl ?_
                refine v_ireturn1 xB_113 dX10_isKindOrUnder_39 xK_113 (by decide) ?_
                first | exact o1 (by first | omega | (simp only [sA_same, sA_s, ud_s, Int.reduceEq, if_true, if_false, ite_true, ite_false, ↓reduceIte, and_true, true_and, eq_self, Int.add_zero, Int.reduceAdd]; omega) | (simp (disch := omega) only [sA_same, sA_ne, ud_eq, ud_ne, Int.add_zero, Int.reduceAdd]; omega)) | exact o2 (by first | omega | (simp only [sA_same, sA_s, ud_s, Int.reduceEq, if_true, if_false, ite_true, ite_false, ↓reduceIte, and_true, true_and, eq_self, Int.add_zero, Int.reduceAdd]; omega) | (simp (disch := omega) only [sA_same, sA_ne, ud_eq, ud_ne, Int.add_zero, Int.reduceAdd]; omega))
              · refine v_iconst (n := 35) xB_113 dX10_isKindOrUnder_34 ⟨by decide, by decide⟩ rfl ?_
                refine v_goto (t := 39) xB_113 dX10_isKindOrUnder_35 (by decide) rfl ?_
                refine v_ireturn1 xB_113 dX10_isKindOrUnder_39 xK_113 (by decide) ?_
                first | exact o1 (by first | omega | (simp only [sA_same, sA_s, ud_s, Int.reduceEq, if_true, if_false, ite_true, ite_false, ↓reduceIte, and_true, true_and, eq_self, Int.add_zero, Int.reduceAdd]; omega) | (simp (disch := omega) only [sA_same, sA_ne, ud_eq, ud_ne, Int.add_zero, Int.reduceAdd]; omega)) | exact o2 (by first | omega | (simp only [sA_same, sA_s, ud_s, Int.reduceEq, if_true, if_false, ite_true, ite_false, ↓reduceIte, and_true, true_and, eq_self, Int.add_zero, Int.reduceAdd]; omega) | (simp (disch := omega) only [sA_same, sA_ne, ud_eq, ud_ne, Int.add_zero, Int.reduceAdd]; omega))
            · refine v_gst_0 (n := 20) xB_113 dX10_isKindOrUnder_17 xO_113 gs_10_291 rfl ?_
              refine v_iload_n (n := 21) xB_113 dX10_isKindOrUnder_20 rfl rfl ?_
              refine v_iaload (n := 22) (lz := 7) xB_113 dX10_isKindOrUnder_21 (sh_ka _ _ _) rfl (by first | omega | (simp only [sA_same, sA_s, ud_s, Int.reduceEq, if_true, if_false, ite_true, ite_false, ↓reduceIte, and_true, true_and, eq_self, Int.add_zero, Int.reduceAdd]; omega) | (simp (disch := omega) only [sA_same, sA_ne, ud_eq, ud_ne, Int.add_zero, Int.reduceAdd]; omega)) rfl ?_
              (try simp only [K0, K1, K2, K3, K4, K5, K6])
              refine v_istore_n2 (n := 23) xB_113 dX10_isKindOrUnder_22 rfl rfl ?_
              refine v_iinc3 (n := 26) xB_113 dX10_isKindOrUnder_23 rfl (by first | omega | (simp only [sA_same, sA_s, ud_s, Int.reduceEq, if_true, if_false, ite_true, ite_false, ↓reduceIte, and_true, true_and, eq_self, Int.add_zero, Int.reduceAdd]; omega) | (simp (disch := omega) only [sA_same, sA_ne, ud_eq, ud_ne, Int.add_zero, Int.reduceAdd]; omega)) rfl ?_
              refine v_goto (t := 4) xB_113 dX10_isKindOrUnder_26 (by decide) rfl ?_
              refine v_iload_n (n := 5) xB_113 dX10_isKindOrUnder_4 rfl rfl ?_
              refine v_gst_0 (n := 8) xB_113 dX10_isKindOrUnder_5 xO_113 gs_10_291 rfl ?_
              refine v_alen (n := 9) (lz := 7) xB_113 dX10_isKindOrUnder_8 (sh_ka _ _ _) (by decide) rfl rfl ?_
              refine v_ic_ge_n (n := 12) xB_113 dX10_isKindOrUnder_9 (by decide) rfl (by decide) ?_
              refine v_iload_n (n := 13) xB_113 dX10_isKindOrUnder_12 rfl rfl ?_
              refine v_iload_n (n := 14) xB_113 dX10_isKindOrUnder_13 rfl rfl ?_
              refine v_ic_le (t := 29) (n := 17) xB_113 dX10_isKindOrUnder_14 (by decide) rfl rfl (fun g11 => ?_) (fun g11 => ?_)
              · refine v_iload_n (n := 30) xB_113 dX10_isKindOrUnder_29 rfl rfl ?_
                refine v_iload_n (n := 31) xB_113 dX10_isKindOrUnder_30 rfl rfl ?_
                refine v_ic_ne (t := 38) (n := 34) xB_113 dX10_isKindOrUnder_31 (by decide) rfl rfl (fun g12 => ?_) (fun g12 => ?_)
                · refine v_iconst (n := 39) xB_113 dX10_isKindOrUnder_38 ⟨by decide, by decide⟩ rfl ?_
                  refine v_ireturn1 xB_113 dX10_isKindOrUnder_39 xK_113 (by decide) ?_
                  first | exact o1 (by first | omega | (simp only [sA_same, sA_s, ud_s, Int.reduceEq, if_true, if_false, ite_true, ite_false, ↓reduceIte, and_true, true_and, eq_self, Int.add_zero, Int.reduceAdd]; omega) | (simp (disch := omega) only [sA_same, sA_ne, ud_eq, ud_ne, Int.add_zero, Int.reduceAdd]; omega)) | exact o2 (by first | omega | (simp only [sA_same, sA_s, ud_s, Int.reduceEq, if_true, if_false, ite_true, ite_false, ↓reduceIte, and_true, true_and, eq_self, Int.add_zero, Int.reduceAdd]; omega) | (simp (disch := omega) only [sA_same, sA_ne, ud_eq, ud_ne, Int.add_zero, Int.reduceAdd]; omega))
                · refine v_iconst (n := 35) xB_113 dX10_isKindOrUnder_34 ⟨by decide, by decide⟩ rfl ?_
                  refine v_goto (t := 39) xB_113 dX10_isKindOrUnder_35 (by decide) rfl ?_
                  refine v_ireturn1 xB_113 dX10_isKindOrUnder_39 xK_113 (by decide) ?_
                  first | exact o1 (by first | omega | (simp only [sA_same, sA_s, ud_s, Int.reduceEq, if_true, if_false, ite_true, ite_false, ↓reduceIte, and_true, true_and, eq_self, Int.add_zero, Int.reduceAdd]; omega) | (simp (disch := omega) only [sA_same, sA_ne, ud_eq, ud_ne, Int.add_zero, Int.reduceAdd]; omega)) | exact o2 (by first | omega | (simp only [sA_same, sA_s, ud_s, Int.reduceEq, if_true, if_false, ite_true, ite_false, ↓reduceIte, and_true, true_and, eq_self, Int.add_zero, Int.reduceAdd]; omega) | (simp (disch := omega) only [sA_same, sA_ne, ud_eq, ud_ne, Int.add_zero, Int.reduceAdd]; omega))
              · refine v_gst_0 (n := 20) xB_113 dX10_isKindOrUnder_17 xO_113 gs_10_291 rfl ?_
                refine v_iload_n (n := 21) xB_113 dX10_isKindOrUnder_20 rfl rfl ?_
                refine v_iaload (n := 22) (lz := 7) xB_113 dX10_isKindOrUnder_21 (sh_ka _ _ _) rfl (by first | omega | (simp only [sA_same, sA_s, ud_s, Int.reduceEq, if_true, if_false, ite_true, ite_false, ↓reduceIte, and_true, true_and, eq_self, Int.add_zero, Int.reduceAdd]; omega) | (simp (disch := omega) only [sA_same, sA_ne, ud_eq, ud_ne, Int.add_zero, Int.reduceAdd]; omega)) rfl ?_
                (try simp only [K0, K1, K2, K3, K4, K5, K6])
                refine v_istore_n2 (n := 23) xB_113 dX10_isKindOrUnder_22 rfl rfl ?_
                refine v_iinc3 (n := 26) xB_113 dX10_isKindOrUnder_23 rfl (by first | omega | (simp only [sA_same, sA_s, ud_s, Int.reduceEq, if_true, if_false, ite_true, ite_false, ↓reduceIte, and_true, true_and, eq_self, Int.add_zero, Int.reduceAdd]; omega) | (simp (disch := omega) only [sA_same, sA_ne, ud_eq, ud_ne, Int.add_zero, Int.reduceAdd]; omega)) rfl ?_
                refine v_goto (t := 4) xB_113 dX10_isKindOrUnder_26 (by decide) rfl ?_
                refine v_iload_n (n := 5) xB_113 dX10_isKindOrUnder_4 rfl rfl ?_
                refine v_gst_0 (n := 8) xB_113 dX10_isKindOrUnder_5 xO_113 gs_10_291 rfl ?_
                refine v_alen (n := 9) (lz := 7) xB_113 dX10_isKindOrUnder_8 (sh_ka _ _ _) (by decide) rfl rfl ?_
                refine v_ic_ge_n (n := 12) xB_113 dX10_isKindOrUnder_9 (by decide) rfl (by decide) ?_
                refine v_iload_n (n := 13) xB_113 dX10_isKindOrUnder_12 rfl rfl ?_
                refine v_iload_n (n := 14) xB_113 dX10_isKindOrUnder_13 rfl rfl ?_
                refine v_ic_le (t := 29) (n := 17) xB_113 dX10_isKindOrUnder_14 (by decide) rfl rfl (fun g13 => ?_) (fun g13 => ?_)
                · refine v_iload_n (n := 30) xB_113 dX10_isKindOrUnder_29 rfl rfl ?_
                  refine v_iload_n (n := 31) xB_113 dX10_isKindOrUnder_30 rfl rfl ?_
                  refine v_ic_ne (t := 38) (n := 34) xB_113 dX10_isKindOrUnder_31 (by decide) rfl rfl (fun g14 => ?_) (fun g14 => ?_)
                  · refine v_iconst (n := 39) xB_113 dX10_isKindOrUnder_38 ⟨by decide, by decide⟩ rfl ?_
                    refine v_ireturn1 xB_113 dX10_isKindOrUnder_39 xK_113 (by decide) ?_
                    first | exact o1 (by first | omega | (simp only [sA_same, sA_s, ud_s, Int.reduceEq, if_true, if_false, ite_true, ite_false, ↓reduceIte, and_true, true_and, eq_self, Int.add_zero, Int.reduceAdd]; omega) | (simp (disch := omega) only [sA_same, sA_ne, ud_eq, ud_ne, Int.add_zero, Int.reduceAdd]; omega)) | exact o2 (by first | omega | (simp only [sA_same, sA_s, ud_s, Int.reduceEq, if_true, if_false, ite_true, ite_false, ↓reduceIte, and_true, true_and, eq_self, Int.add_zero, Int.reduceAdd]; omega) | (simp (disch := omega) only [sA_same, sA_ne, ud_eq, ud_ne, Int.add_zero, Int.reduceAdd]; omega))
                  · refine v_iconst (n := 35) xB_113 dX10_isKindOrUnder_34 ⟨by decide, by decide⟩ rfl ?_
                    refine v_goto (t := 39) xB_113 dX10_isKindOrUnder_35 (by decide) rfl ?_
                    refine v_ireturn1 xB_113 dX10_isKindOrUnder_39 xK_113 (by decide) ?_
                    first | exact o1 (by first | omega | (simp only [sA_same, sA_s, ud_s, Int.reduceEq, if_true, if_false, ite_true, ite_false, ↓reduceIte, and_true, true_and, eq_self, Int.add_zero, Int.reduceAdd]; omega) | (simp (disch := omega) only [sA_same, sA_ne, ud_eq, ud_ne, Int.add_zero, Int.reduceAdd]; omega)) | exact o2 (by first | omega | (simp only [sA_same, sA_s, ud_s, Int.reduceEq, if_true, if_false, ite_true, ite_false, ↓reduceIte, and_true, true_and, eq_self, Int.add_zero, Int.reduceAdd]; omega) | (simp (disch := omega) only [sA_same, sA_ne, ud_eq, ud_ne, Int.add_zero, Int.reduceAdd]; omega))
                · refine v_gst_0 (n := 20) xB_113 dX10_isKindOrUnder_17 xO_113 gs_10_291 rfl ?_
                  refine v_iload_n (n := 21) xB_113 dX10_isKindOrUnder_20 rfl rfl ?_
                  refine v_iaload (n := 22) (lz := 7) xB_113 dX10_isKindOrUnder_21 (sh_ka _ _ _) rfl (by first | omega | (simp only [sA_same, sA_s, ud_s, Int.reduceEq, if_true, if_false, ite_true, ite_false, ↓reduceIte, and_true, true_and, eq_self, Int.add_zero, Int.reduceAdd]; omega) | (simp (disch := omega) only [sA_same, sA_ne, ud_eq, ud_ne, Int.add_zero, Int.reduceAdd]; omega)) rfl ?_
                  (try simp only [K0, K1, K2, K3, K4, K5, K6])
                  refine v_istore_n2 (n := 23) xB_113 dX10_isKindOrUnder_22 rfl rfl ?_
                  refine v_iinc3 (n := 26) xB_113 dX10_isKindOrUnder_23 rfl (by first | omega | (simp only [sA_same, sA_s, ud_s, Int.reduceEq, if_true, if_false, ite_true, ite_false, ↓reduceIte, and_true, true_and, eq_self, Int.add_zero, Int.reduceAdd]; omega) | (simp (disch := omega) only [sA_same, sA_ne, ud_eq, ud_ne, Int.add_zero, Int.reduceAdd]; omega)) rfl ?_
                  refine v_goto (t := 4) xB_113 dX10_isKindOrUnder_26 (by decide) rfl ?_
                  refine v_iload_n (n := 5) xB_113 dX10_isKindOrUnder_4 rfl rfl ?_
                  refine v_gst_0 (n := 8) xB_113 dX10_isKindOrUnder_5 xO_113 gs_10_291 rfl ?_
                  refine v_alen (n := 9) (lz := 7) xB_113 dX10_isKindOrUnder_8 (sh_ka _ _ _) (by decide) rfl rfl ?_
                  refine v_ic_ge_y (t := 29) xB_113 dX10_isKindOrUnder_9 (by decide) rfl (by decide) ?_
                  refine v_iload_n (n := 30) xB_113 dX10_isKindOrUnder_29 rfl rfl ?_
                  refine v_iload_n (n := 31) xB_113 dX10_isKindOrUnder_30 rfl rfl ?_
                  refine v_ic_ne (t := 38) (n := 34) xB_113 dX10_isKindOrUnder_31 (by decide) rfl rfl (fun g15 => ?_) (fun g15 => ?_)
                  · refine v_iconst (n := 39) xB_113 dX10_isKindOrUnder_38 ⟨by decide, by decide⟩ rfl ?_
                    refine v_ireturn1 xB_113 dX10_isKindOrUnder_39 xK_113 (by decide) ?_
                    first | exact o1 (by first | omega | (simp only [sA_same, sA_s, ud_s, Int.reduceEq, if_true, if_false, ite_true, ite_false, ↓reduceIte, and_true, true_and, eq_self, Int.add_zero, Int.reduceAdd]; omega) | (simp (disch := omega) only [sA_same, sA_ne, ud_eq, ud_ne, Int.add_zero, Int.reduceAdd]; omega)) | exact o2 (by first | omega | (simp only [sA_same, sA_s, ud_s, Int.reduceEq, if_true, if_false, ite_true, ite_false, ↓reduceIte, and_true, true_and, eq_self, Int.add_zero, Int.reduceAdd]; omega) | (simp (disch := omega) only [sA_same, sA_ne, ud_eq, ud_ne, Int.add_zero, Int.reduceAdd]; omega))
                  · refine v_iconst (n := 35) xB_113 dX10_isKindOrUnder_34 ⟨by decide, by decide⟩ rfl ?_
                    refine v_goto (t := 39) xB_113 dX10_isKindOrUnder_35 (by decide) rfl ?_
                    refine v_ireturn1 xB_113 dX10_isKindOrUnder_39 xK_113 (by decide) ?_
                    first | exact o1 (by first | omega | (simp only [sA_same, sA_s, ud_s, Int.reduceEq, if_true, if_false, ite_true, ite_false, ↓reduceIte, and_true, true_and, eq_self, Int.add_zero, Int.reduceAdd]; omega) | (simp (disch := omega) only [sA_same, sA_ne, ud_eq, ud_ne, Int.add_zero, Int.reduceAdd]; omega)) | exact o2 (by first | omega | (simp only [sA_same, sA_s, ud_s, Int.reduceEq, if_true, if_false, ite_true, ite_false, ↓reduceIte, and_true, true_and, eq_self, Int.add_zero, Int.reduceAdd]; omega) | (simp (disch := omega) only [sA_same, sA_ne, ud_eq, ud_ne, Int.add_zero, Int.reduceAdd]; omega))
  · subst hx
    refine v_iload_n (n := 1) xB_113 dX10_isKindOrUnder_0 rfl rfl ?_
    refine v_istore_n2 (n := 2) xB_113 dX10_isKindOrUnder_1 rfl rfl ?_
    refine v_iconst (n := 3) xB_113 dX10_isKindOrUnder_2 ⟨by decide, by decide⟩ rfl ?_
    refine v_istore_n3 (n := 4) xB_113 dX10_isKindOrUnder_3 rfl rfl ?_
    refine v_iload_n (n := 5) xB_113 dX10_isKindOrUnder_4 rfl rfl ?_
    refine v_gst_0 (n := 8) xB_113 dX10_isKindOrUnder_5 xO_113 gs_10_291 rfl ?_
    refine v_alen (n := 9) (lz := 7) xB_113 dX10_isKindOrUnder_8 (sh_ka _ _ _) (by decide) rfl rfl ?_
    refine v_ic_ge_n (n := 12) xB_113 dX10_isKindOrUnder_9 (by decide) rfl (by decide) ?_
    refine v_iload_n (n := 13) xB_113 dX10_isKindOrUnder_12 rfl rfl ?_
    refine v_iload_n (n := 14) xB_113 dX10_isKindOrUnder_13 rfl rfl ?_
    refine v_ic_le (t := 29) (n := 17) xB_113 dX10_isKindOrUnder_14 (by decide) rfl rfl (fun g1 => ?_) (fun g1 => ?_)
    · refine v_iload_n (n := 30) xB_113 dX10_isKindOrUnder_29 rfl rfl ?_
      refine v_iload_n (n := 31) xB_113 dX10_isKindOrUnder_30 rfl rfl ?_
      refine v_ic_ne (t := 38) (n := 34) xB_113 dX10_isKindOrUnder_31 (by decide) rfl rfl (fun g2 => ?_) (fun g2 => ?_)
      · refine v_iconst (n := 39) xB_113 dX10_isKindOrUnder_38 ⟨by decide, by decide⟩ rfl ?_
        refine v_ireturn1 xB_113 dX10_isKindOrUnder_39 xK_113 (by decide) ?_
        first | exact o1 (by first | omega | (simp only [sA_same, sA_s, ud_s, Int.reduceEq, if_true, if_false, ite_true, ite_false, ↓reduceIte, and_true, true_and, eq_self, Int.add_zero, Int.reduceAdd]; omega) | (simp (disch := omega) only [sA_same, sA_ne, ud_eq, ud_ne, Int.add_zero, Int.reduceAdd]; omega)) | exact o2 (by first | omega | (simp only [sA_same, sA_s, ud_s, Int.reduceEq, if_true, if_false, ite_true, ite_false, ↓reduceIte, and_true, true_and, eq_self, Int.add_zero, Int.reduceAdd]; omega) | (simp (disch := omega) only [sA_same, sA_ne, ud_eq, ud_ne, Int.add_zero, Int.reduceAdd]; omega))
      · refine v_iconst (n := 35) xB_113 dX10_isKindOrUnder_34 ⟨by decide, by decide⟩ rfl ?_
        refine v_goto (t := 39) xB_113 dX10_isKindOrUnder_35 (by decide) rfl ?_
        refine v_ireturn1 xB_113 dX10_isKindOrUnder_39 xK_113 (by decide) ?_
        first | exact o1 (by first | omega | (simp only [sA_same, sA_s, ud_s, Int.reduceEq, if_true, if_false, ite_true, ite_false, ↓reduceIte, and_true, true_and, eq_self, Int.add_zero, Int.reduceAdd]; omega) | (simp (disch := omega) only [sA_same, sA_ne, ud_eq, ud_ne, Int.add_zero, Int.reduceAdd]; omega)) | exact o2 (by first | omega | (simp only [sA_same, sA_s, ud_s, Int.reduceEq, if_true, if_false, ite_true, ite_false, ↓reduceIte, and_true, true_and, eq_self, Int.add_zero, Int.reduceAdd]; omega) | (simp (disch := omega) only [sA_same, sA_ne, ud_eq, ud_ne, Int.add_zero, Int.reduceAdd]; omega))
    · refine v_gst_0 (n := 20) xB_113 dX10_isKindOrUnder_17 xO_113 gs_10_291 rfl ?_
      refine v_iload_n (n := 21) xB_113 dX10_isKindOrUnder_20 rfl rfl ?_
      refine v_iaload (n := 22) (lz := 7) xB_113 dX10_isKindOrUnder_21 (sh_ka _ _ _) rfl (by first | omega | (simp only [sA_same, sA_s, ud_s, Int.reduceEq, if_true, if_false, ite_true, ite_false, ↓reduceIte, and_true, true_and, eq_self, Int.add_zero, Int.reduceAdd]; omega) | (simp (disch := omega) only [sA_same, sA_ne, ud_eq, ud_ne, Int.add_zero, Int.reduceAdd]; omega)) rfl ?_
      (try simp only [K0, K1, K2, K3, K4, K5, K6])
      refine v_istore_n2 (n := 23) xB_113 dX10_isKindOrUnder_22 rfl rfl ?_
      refine v_iinc3 (n := 26) xB_113 dX10_isKindOrUnder_23 rfl (by first | omega | (simp only [sA_same, sA_s, ud_s, Int.reduceEq, if_true, if_false, ite_true, ite_false, ↓reduceIte, and_true, true_and, eq_self, Int.add_zero, Int.reduceAdd]; omega) | (simp (disch := omega) only [sA_same, sA_ne, ud_eq, ud_ne, Int.add_zero, Int.reduceAdd]; omega)) rfl ?_
      refine v_goto (t := 4) xB_113 dX10_isKindOrUnder_26 (by decide) rfl ?_
      refine v_iload_n (n := 5) xB_113 dX10_isKindOrUnder_4 rfl rfl ?_
      refine v_gst_0 (n := 8) xB_113 dX10_isKindOrUnder_5 xO_113 gs_10_291 rfl ?_
      refine v_alen (n := 9) (lz := 7) xB_113 dX10_isKindOrUnder_8 (sh_ka _ _ _) (by decide) rfl rfl ?_
      refine v_ic_ge_n (n := 12) xB_113 dX10_isKindOrUnder_9 (by decide) rfl (by decide) ?_
      refine v_iload_n (n := 13) xB_113 dX10_isKindOrUnder_12 rfl rfl ?_
      refine v_iload_n (n := 14) xB_113 dX10_isKindOrUnder_13 rfl rfl ?_
      refine v_ic_le (t := 29) (n := 17) xB_113 dX10_isKindOrUnder_14 (by decide) rfl rfl (fun g3 => ?_) (fun g3 => ?_)
      · refine v_iload_n (n := 30) xB_113 dX10_isKindOrUnder_29 rfl rfl ?_
        refine v_iload_n (n := 31) xB_113 dX10_isKindOrUnder_30 rfl rfl ?_
        refine v_ic_ne (t := 38) (n := 34) xB_113 dX10_isKindOrUnder_31 (by decide) rfl rfl (fun g4 => ?_) (fun g4 => ?_)
        · refine v_iconst (n := 39) xB_113 dX10_isKindOrUnder_38 ⟨by decide, by decide⟩ rfl ?_
          refine v_ireturn1 xB_113 dX10_isKindOrUnder_39 xK_113 (by decide) ?_
          first | exact o1 (by first | omega | (simp only [sA_same, sA_s, ud_s, Int.reduceEq, if_true, if_false, ite_true, ite_false, ↓reduceIte, and_true, true_and, eq_self, Int.add_zero, Int.reduceAdd]; omega) | (simp (disch := omega) only [sA_same, sA_ne, ud_eq, ud_ne, Int.add_zero, Int.reduceAdd]; omega)) | exact o2 (by first | omega | (simp only [sA_same, sA_s, ud_s, Int.reduceEq, if_true, if_false, ite_true, ite_false, ↓reduceIte, and_true, true_and, eq_self, Int.add_zero, Int.reduceAdd]; omega) | (simp (disch := omega) only [sA_same, sA_ne, ud_eq, ud_ne, Int.add_zero, Int.reduceAdd]; omega))
        · refine v_iconst (n := 35) xB_113 dX10_isKindOrUnder_34 ⟨by decide, by decide⟩ rfl ?_
          refine v_goto (t := 39) xB_113 dX10_isKindOrUnder_35 (by decide) rfl ?_
          refine v_ireturn1 xB_113 dX10_isKindOrUnder_39 xK_113 (by decide) ?_
          first | exact o1 (by first | omega | (simp only [sA_same, sA_s, ud_s, Int.reduceEq, if_true, if_false, ite_true, ite_false, ↓reduceIte, and_true, true_and, eq_self, Int.add_zero, Int.reduceAdd]; omega) | (simp (disch := omega) only [sA_same, sA_ne, ud_eq, ud_ne, Int.add_zero, Int.reduceAdd]; omega)) | exact o2 (by first | omega | (simp only [sA_same, sA_s, ud_s, Int.reduceEq, if_true, if_false, ite_true, ite_false, ↓reduceIte, and_true, true_and, eq_self, Int.add_zero, Int.reduceAdd]; omega) | (simp (disch := omega) only [sA_same, sA_ne, ud_eq, ud_ne, Int.add_zero, Int.reduceAdd]; omega))
      · refine v_gst_0 (n := 20) xB_113 dX10_isKindOrUnder_17 xO_113 gs_10_291 rfl ?_
        refine v_iload_n (n := 21) xB_113 dX10_isKindOrUnder_20 rfl rfl ?_
        refine v_iaload (n := 22) (lz := 7) xB_113 dX10_isKindOrUnder_21 (sh_ka _ _ _) rfl (by first | omega | (simp only [sA_same, sA_s, ud_s, Int.reduceEq, if_true, if_false, ite_true, ite_false, ↓reduceIte, and_true, true_and, eq_self, Int.add_zero, Int.reduceAdd]; omega) | (simp (disch := omega) only [sA_same, sA_ne, ud_eq, ud_ne, Int.add_zero, Int.reduceAdd]; omega)) rfl ?_
        (try simp only [K0, K1, K2, K3, K4, K5, K6])
        refine v_istore_n2 (n := 23) xB_113 dX10_isKindOrUnder_22 rfl rfl ?_
        refine v_iinc3 (n := 26) xB_113 dX10_isKindOrUnder_23 rfl (by first | omega | (simp only [sA_same, sA_s, ud_s, Int.reduceEq, if_true, if_false, ite_true, ite_false, ↓reduceIte, and_true, true_and, eq_self, Int.add_zero, Int.reduceAdd]; omega) | (simp (disch := omega) only [sA_same, sA_ne, ud_eq, ud_ne, Int.add_zero, Int.reduceAdd]; omega)) rfl ?_
        refine v_goto (t := 4) xB_113 dX10_isKindOrUnder_26 (by decide) rfl ?_
        refine v_iload_n (n := 5) xB_113 dX10_isKindOrUnder_4 rfl rfl ?_
        refine v_gst_0 (n := 8) xB_113 dX10_isKindOrUnder_5 xO_113 gs_10_291 rfl ?_
        refine v_alen (n := 9) (lz := 7) xB_113 dX10_isKindOrUnder_8 (sh_ka _ _ _) (by decide) rfl rfl ?_
        refine v_ic_ge_n (n := 12) xB_113 dX10_isKindOrUnder_9 (by decide) rfl (by decide) ?_
        refine v_iload_n (n := 13) xB_113 dX10_isKindOrUnder_12 rfl rfl ?_
        refine v_iload_n (n := 14) xB_113 dX10_isKindOrUnder_13 rfl rfl ?_
        refine v_ic_le (t := 29) (n := 17) xB_113 dX10_isKindOrUnder_14 (by decide) rfl rfl (fun g5 => ?_) (fun g5 => ?_)
        · refine v_iload_n (n := 30) xB_113 dX10_isKindOrUnder_29 rfl rfl ?_
          refine v_iload_n (n := 31) xB_113 dX10_isKindOrUnder_30 rfl rfl ?_
          refine v_ic_ne (t := 38) (n := 34) xB_113 dX10_isKindOrUnder_31 (by decide) rfl rfl (fun g6 => ?_) (fun g6 => ?_)
          · refine v_iconst (n := 39) xB_113 dX10_isKindOrUnder_38 ⟨by decide, by decide⟩ rfl ?_
            refine v_ireturn1 xB_113 dX10_isKindOrUnder_39 xK_113 (by decide) ?_
            first | exact o1 (by first | omega | (simp only [sA_same, sA_s, ud_s, Int.reduceEq, if_true, if_false, ite_true, ite_false, ↓reduceIte, and_true, true_and, eq_self, Int.add_zero, Int.reduceAdd]; omega) | (simp (disch := omega) only [sA_same, sA_ne, ud_eq, ud_ne, Int.add_zero, Int.reduceAdd]; omega)) | exact o2 (by first | omega | (simp only [sA_same, sA_s, ud_s, Int.reduceEq, if_true, if_false, ite_true, ite_false, ↓reduceIte, and_true, true_and, eq_self, Int.add_zero, Int.reduceAdd]; omega) | (simp (disch := omega) only [sA_same, sA_ne, ud_eq, ud_ne, Int.add_zero, Int.reduceAdd]; omega))
          · refine v_iconst (n := 35) xB_113 dX10_isKindOrUnder_34 ⟨by decide, by decide⟩ rfl ?_
            refine v_goto (t := 39) xB_113 dX10_isKindOrUnder_35 (by decide) rfl ?_
            refine v_ireturn1 xB_113 dX10_isKindOrUnder_39 xK_113 (by decide) ?_
            first | exact o1 (by first | omega | (simp only [sA_same, sA_s, ud_s, Int.reduceEq, if_true, if_false, ite_true, ite_false, ↓reduceIte, and_true, true_and, eq_self, Int.add_zero, Int.reduceAdd]; omega) | (simp (disch := omega) only [sA_same, sA_ne, ud_eq, ud_ne, Int.add_zero, Int.reduceAdd]; omega)) | exact o2 (by first | omega | (simp only [sA_same, sA_s, ud_s, Int.reduceEq, if_true, if_false, ite_true, ite_false, ↓reduceIte, and_true, true_and, eq_self, Int.add_zero, Int.reduceAdd]; omega) | (simp (disch := omega) only [sA_same, sA_ne, ud_eq, ud_ne, Int.add_zero, Int.reduceAdd]; omega))
        · refine v_gst_0 (n := 20) xB_113 dX10_isKindOrUnder_17 xO_113 gs_10_291 rfl ?_
          refine v_iload_n (n := 21) xB_113 dX10_isKindOrUnder_20 rfl rfl ?_
          refine v_iaload (n := 22) (lz := 7) xB_113 dX10_isKindOrUnder_21 (sh_ka _ _ _) rfl (by first | omega | (simp only [sA_same, sA_s, ud_s, Int.reduceEq, if_true, if_false, ite_true, ite_false, ↓reduceIte, and_true, true_and, eq_self, Int.add_zero, Int.reduceAdd]; omega) | (simp (disch := omega) only [sA_same, sA_ne, ud_eq, ud_ne, Int.add_zero, Int.reduceAdd]; omega)) rfl ?_
          (try simp only [K0, K1, K2, K3, K4, K5, K6])
          refine v_istore_n2 (n := 23) xB_113 dX10_isKindOrUnder_22 rfl rfl ?_
          refine v_iinc3 (n := 26) xB_113 dX10_isKindOrUnder_23 rfl (by first | omega | (simp only [sA_same, sA_s, ud_s, Int.reduceEq, if_true, if_false, ite_true, ite_false, ↓reduceIte, and_true, true_and, eq_self, Int.add_zero, Int.reduceAdd]; omega) | (simp (disch := omega) only [sA_same, sA_ne, ud_eq, ud_ne, Int.add_zero, Int.reduceAdd]; omega)) rfl ?_
          refine v_goto (t := 4) xB_113 dX10_isKindOrUnder_26 (by decide) rfl ?_
          refine v_iload_n (n := 5) xB_113 dX10_isKindOrUnder_4 rfl rfl ?_
          refine v_gst_0 (n := 8) xB_113 dX10_isKindOrUnder_5 xO_113 gs_10_291 rfl ?_
          refine v_alen (n := 9) (lz := 7) xB_113 dX10_isKindOrUnder_8 (sh_ka _ _ _) (by decide) rfl rfl ?_
          refine v_ic_ge_n (n := 12) xB_113 dX10_isKindOrUnder_9 (by decide) rfl (by decide) ?_
          refine v_iload_n (n := 13) xB_113 dX10_isKindOrUnder_12 rfl rfl ?_
          refine v_iload_n (n := 14) xB_113 dX10_isKindOrUnder_13 rfl rfl ?_
          refine v_ic_le (t := 29) (n := 17) xB_113 dX10_isKindOrUnder_14 (by decide) rfl rfl (fun g7 => ?_) (fun g7 => ?_)
          · refine v_iload_n (n := 30) xB_113 dX10_isKindOrUnder_29 rfl rfl ?_
            refine v_iload_n (n := 31) xB_113 dX10_isKindOrUnder_30 rfl rfl ?_
            refine v_ic_ne (t := 38) (n := 34) xB_113 dX10_isKindOrUnder_31 (by decide) rfl rfl (fun g8 => ?_) (fun g8 => ?_)
            · refine v_iconst (n := 39) xB_113 dX10_isKindOrUnder_38 ⟨by decide, by decide⟩ rfl ?_
              refine v_ireturn1 xB_113 dX10_isKindOrUnder_39 xK_113 (by decide) ?_
              first | exact o1 (by first | omega | (simp only [sA_same, sA_s, ud_s, Int.reduceEq, if_true, if_false, ite_true, ite_false, ↓reduceIte, and_true, true_and, eq_self, Int.add_zero, Int.reduceAdd]; omega) | (simp (disch := omega) only [sA_same, sA_ne, ud_eq, ud_ne, Int.add_zero, Int.reduceAdd]; omega)) | exact o2 (by first | omega | (simp only [sA_same, sA_s, ud_s, Int.reduceEq, if_true, if_false, ite_true, ite_false, ↓reduceIte, and_true, true_and, eq_self, Int.add_zero, Int.reduceAdd]; omega) | (simp (disch := omega) only [sA_same, sA_ne, ud_eq, ud_ne, Int.add_zero, Int.reduceAdd]; omega))
            · refine v_iconst (n := 35) xB_113 dX10_isKindOrUnder_34 ⟨by decide, by decide⟩ rfl ?_
              refine v_goto (t := 39) xB_113 dX10_isKindOrUnder_35 (by decide) rfl ?_
              refine v_ireturn1 xB_113 dX10_isKindOrUnder_39 xK_113 (by decide) ?_
              first | exact o1 (by first | omega | (simp only [sA_same, sA_s, ud_s, Int.reduceEq, if_true, if_false, ite_true, ite_false, ↓reduceIte, and_true, true_and, eq_self, Int.add_zero, Int.reduceAdd]; omega) | (simp (disch := omega) only [sA_same, sA_ne, ud_eq, ud_ne, Int.add_zero, Int.reduceAdd]; omega)) | exact o2 (by first | omega | (simp only [sA_same, sA_s, ud_s, Int.reduceEq, if_true, if_false, ite_true, ite_false, ↓reduceIte, and_true, true_and, eq_self, Int.add_zero, Int.reduceAdd]; omega) | (simp (disch := omega) only [sA_same, sA_ne, ud_eq, ud_ne, Int.add_zero, Int.reduceAdd]; omega))
          · refine v_gst_0 (n := 20) xB_113 dX10_isKindOrUnder_17 xO_113 gs_10_291 rfl ?_
            refine v_iload_n (n := 21) xB_113 dX10_isKindOrUnder_20 rfl rfl ?_
            refine v_iaload (n := 22) (lz := 7) xB_113 dX10_isKindOrUnder_21 (sh_ka _ _ _) rfl (by first | omega | (simp only [sA_same, sA_s, ud_s, Int.reduceEq, if_true, if_false, ite_true, ite_false, ↓reduceIte, and_true, true_and, eq_self, Int.add_zero, Int.reduceAdd]; omega) | (simp (disch := omega) only [sA_same, sA_ne, ud_eq, ud_ne, Int.add_zero, Int.reduceAdd]; omega)) rfl ?_
            (try simp only [K0, K1, K2, K3, K4, K5, K6])
            refine v_istore_n2 (n := 23) xB_113 dX10_isKindOrUnder_22 rfl rfl ?_
            refine v_iinc3 (n := 26) xB_113 dX10_isKindOrUnder_23 rfl (by first | omega | (simp only [sA_same, sA_s, ud_s, Int.reduceEq, if_true, if_false, ite_true, ite_false, ↓reduceIte, and_true, true_and, eq_self, Int.add_zero, Int.reduceAdd]; omega) | (simp (disch := omega) only [sA_same, sA_ne, ud_eq, ud_ne, Int.add_zero, Int.reduceAdd]; omega)) rfl ?_
            refine v_goto (t := 4) xB_113 dX10_isKindOrUnder_26 (by decide) rfl ?_
            refine v_iload_n (n := 5) xB_113 dX10_isKindOrUnder_4 rfl rfl ?_
            refine v_gst_0 (n := 8) xB_113 dX10_isKindOrUnder_5 xO_113 gs_10_291 rfl ?_
            refine v_alen (n := 9) (lz := 7) xB_113 dX10_isKindOrUnder_8 (sh_ka _ _ _) (by decide) rfl rfl ?_
            refine v_ic_ge_n (n := 12) xB_113 dX10_isKindOrUnder_9 (by decide) rfl (by decide) ?_
            refine v_iload_n (n := 13) xB_113 dX10_isKindOrUnder_12 rfl rfl ?_
            refine v_iload_n (n := 14) xB_113 dX10_isKindOrUnder_13 rfl rfl ?_
            refine v_ic_le (t := 29) (n := 17) xB_113 dX10_isKindOrUnder_14 (by decide) rfl rfl (fun g9 => ?_) (fun g9 => ?_)
            · refine v_iload_n (n := 30) xB_113 dX10_isKindOrUnder_29 rfl rfl ?_
              refine v_iload_n (n := 31) xB_113 dX10_isKindOrUnder_30 rfl rfl ?_
              refine v_ic_ne (t := 38) (n := 34) xB_113 dX10_isKindOrUnder_31 (by decide) rfl rfl (fun g10 => ?_) (fun g10 => ?_)
              · refine v_iconst (n := 39) xB_113 dX10_isKindOrUnder_38 ⟨by decide, by decide⟩ rfl ?_
                refine v_ireturn1 xB_113 dX10_isKindOrUnder_39 xK_113 (by decide) ?_
                first | exact o1 (by first | omega | (simp only [sA_same, sA_s, ud_s, Int.reduceEq, if_true, if_false, ite_true, ite_false, ↓reduceIte, and_true, true_and, eq_self, Int.add_zero, Int.reduceAdd]; omega) | (simp (disch := omega) only [sA_same, sA_ne, ud_eq, ud_ne, Int.add_zero, Int.reduceAdd]; omega)) | exact o2 (by first | omega | (simp only [sA_same, sA_s, ud_s, Int.reduceEq, if_true, if_false, ite_true, ite_false, ↓reduceIte, and_true, true_and, eq_self, Int.add_zero, Int.reduceAdd]; omega) | (simp (disch := omega) only [sA_same, sA_ne, ud_eq, ud_ne, Int.add_zero, Int.reduceAdd]; omega))
              · refine v_iconst (n := 35) xB_113 dX10_isKindOrUnder_34 ⟨by decide, by decide⟩ rfl ?_
                refine v_goto (t := 39) xB_113 dX10_isKindOrUnder_35 (by decide) rfl ?_
                refine v_ireturn1 xB_113 dX10_isKindOrUnder_39 xK_113 (by decide) ?_
                first | exact o1 (by first | omega | (simp only [sA_same, sA_s, ud_s, Int.reduceEq, if_true, if_false, ite_true, ite_false, ↓reduceIte, and_true, true_and, eq_self, Int.add_zero, Int.reduceAdd]; omega) | (simp (disch := omega) only [sA_same, sA_ne, ud_eq, ud_ne, Int.add_zero, Int.reduceAdd]; omega)) | exact o2 (by first | omega | (simp only [sA_same, sA_s, ud_s, Int.reduceEq, if_true, if_false, ite_true, ite_false, ↓reduceIte, and_true, true_and, eq_self, Int.add_zero, Int.reduceAdd]; omega) | (simp (disch := omega) only [sA_same, sA_ne, ud_eq, ud_ne, Int.add_zero, Int.reduceAdd]; omega))
            · refine v_gst_0 (n := 20) xB_113 dX10_isKindOrUnder_17 xO_113 gs_10_291 rfl ?_
              refine v_iload_n (n := 21) xB_113 dX10_isKindOrUnder_20 rfl rfl ?_
              refine v_iaload (n := 22) (lz := 7) xB_113 dX10_isKindOrUnder_21 (sh_ka _ _ _) rfl (by first | omega | (simp only [sA_same, sA_s, ud_s, Int.reduceEq, if_true, if_false, ite_true, ite_false, ↓reduceIte, and_true, true_and, eq_self, Int.add_zero, Int.reduceAdd]; omega) | (simp (disch := omega) only [sA_same, sA_ne, ud_eq, ud_ne, Int.add_zero, Int.reduceAdd]; omega)) rfl ?_
              (try simp only [K0, K1, K2, K3, K4, K5, K6])
              refine v_istore_n2 (n := 23) xB_113 dX10_isKindOrUnder_22 rfl rfl ?_
              refine v_iinc3 (n := 26) xB_113 dX10_isKindOrUnder_23 rfl (by first | omega | (simp only [sA_same, sA_s, ud_s, Int.reduceEq, if_true, if_false, ite_true, ite_false, ↓reduceIte, and_true, true_and, eq_self, Int.add_zero, Int.reduceAdd]; omega) | (simp (disch := omega) only [sA_same, sA_ne, ud_eq, ud_ne, Int.add_zero, Int.reduceAdd]; omega)) rfl ?_
              refine v_goto (t := 4) xB_113 dX10_isKindOrUnder_26 (by decide) rfl ?_
              refine v_iload_n (n := 5) xB_113 dX10_isKindOrUnder_4 rfl rfl ?_
              refine v_gst_0 (n := 8) xB_113 dX10_isKindOrUnder_5 xO_113 gs_10_291 rfl ?_
              refine v_alen (n := 9) (lz := 7) xB_113 dX10_isKindOrUnder_8 (sh_ka _ _ _) (by decide) rfl rfl ?_
              refine v_ic_ge_n (n := 12) xB_113 dX10_isKindOrUnder_9 (by decide) rfl (by decide) ?_
              refine v_iload_n (n := 13) xB_113 dX10_isKindOrUnder_12 rfl rfl ?_
              refine v_iload_n (n := 14) xB_113 dX10_isKindOrUnder_13 rfl rfl ?_
              refine v_ic_le (t := 29) (n := 17) xB_113 dX10_isKindOrUnder_14 (by decide) rfl rfl (fun g11 => ?_) (fun g11 => ?_)
              · refine v_iload_n (n := 30) xB_113 dX10_isKindOrUnder_29 rfl rfl ?_
                refine v_iload_n (n := 31) xB_113 dX10_isKindOrUnder_30 rfl rfl ?_
                refine v_ic_ne (t := 38) (n := 34) xB_113 dX10_isKindOrUnder_31 (by decide) rfl rfl (fun g12 => ?_) (fun g12 => ?_)
                · refine v_iconst (n := 39) xB_113 dX10_isKindOrUnder_38 ⟨by decide, by decide⟩ rfl ?_
                  refine v_ireturn1 xB_113 dX10_isKindOrUnder_39 xK_113 (by decide) ?_
                  first | exact o1 (by first | omega | (simp only [sA_same, sA_s, ud_s, Int.reduceEq, if_true, if_false, ite_true, ite_false, ↓reduceIte, and_true, true_and, eq_self, Int.add_zero, Int.reduceAdd]; omega) | (simp (disch := omega) only [sA_same, sA_ne, ud_eq, ud_ne, Int.add_zero, Int.reduceAdd]; omega)) | exact o2 (by first | omega | (simp only [sA_same, sA_s, ud_s, Int.reduceEq, if_true, if_false, ite_true, ite_false, ↓reduceIte, and_true, true_and, eq_self, Int.add_zero, Int.reduceAdd]; omega) | (simp (disch := omega) only [sA_same, sA_ne, ud_eq, ud_ne, Int.add_zero, Int.reduceAdd]; omega))
                · refine v_iconst (n := 35) xB_113 dX10_isKindOrUnder_34 ⟨by decide, by decide⟩ rfl ?_
                  refine v_goto (t := 39) xB_113 dX10_isKindOrUnder_35 (by decide) rfl ?_
                  refine v_ireturn1 xB_113 dX10_isKindOrUnder_39 xK_113 (by decide) ?_
                  first | exact o1 (by first | omega | (simp only [sA_same, sA_s, ud_s, Int.reduceEq, if_true, if_false, ite_true, ite_false, ↓reduceIte, and_true, true_and, eq_self, Int.add_zero, Int.reduceAdd]; omega) | (simp (disch := omega) only [sA_same, sA_ne, ud_eq, ud_ne, Int.add_zero, Int.reduceAdd]; omega)) | exact o2 (by first | omega | (simp only [sA_same, sA_s, ud_s, Int.reduceEq, if_true, if_false, ite_true, ite_false, ↓reduceIte, and_true, true_and, eq_self, Int.add_zero, Int.reduceAdd]; omega) | (simp (disch := omega) only [sA_same, sA_ne, ud_eq, ud_ne, Int.add_zero, Int.reduceAdd]; omega))
              · refine v_gst_0 (n := 20) xB_113 dX10_isKindOrUnder_17 xO_113 gs_10_291 rfl ?_
                refine v_iload_n (n := 21) xB_113 dX10_isKindOrUnder_20 rfl rfl ?_
                refine v_iaload (n := 22) (lz := 7) xB_113 dX10_isKindOrUnder_21 (sh_ka _ _ _) rfl (by first | omega | (simp only [sA_same, sA_s, ud_s, Int.reduceEq, if_true, if_false, ite_true, ite_false, ↓reduceIte, and_true, true_and, eq_self, Int.add_zero, Int.reduceAdd]; omega) | (simp (disch := omega) only [sA_same, sA_ne, ud_eq, ud_ne, Int.add_zero, Int.reduceAdd]; omega)) rfl ?_
                (try simp only [K0, K1, K2, K3, K4, K5, K6])
                refine v_istore_n2 (n := 23) xB_113 dX10_isKindOrUnder_22 rfl rfl ?_
                refine v_iinc3 (n := 26) xB_113 dX10_isKindOrUnder_23 rfl (by first | omega | (simp only [sA_same, sA_s, ud_s, Int.reduceEq, if_true, if_false, ite_true, ite_false, ↓reduceIte, and_true, true_and, eq_self, Int.add_zero, Int.reduceAdd]; omega) | (simp (disch := omega) only [sA_same, sA_ne, ud_eq, ud_ne, Int.add_zero, Int.reduceAdd]; omega)) rfl ?_
                refine v_goto (t := 4) xB_113 dX10_isKindOrUnder_26 (by decide) rfl ?_
                refine v_iload_n (n := 5) xB_113 dX10_isKindOrUnder_4 rfl rfl ?_
                refine v_gst_0 (n := 8) xB_113 dX10_isKindOrUnder_5 xO_113 gs_10_291 rfl ?_
                refine v_alen (n := 9) (lz := 7) xB_113 dX10_isKindOrUnder_8 (sh_ka _ _ _) (by decide) rfl rfl ?_
                refine v_ic_ge_n (n := 12) xB_113 dX10_isKindOrUnder_9 (by decide) rfl (by decide) ?_
                refine v_iload_n (n := 13) xB_113 dX10_isKindOrUnder_12 rfl rfl ?_
                refine v_iload_n (n := 14) xB_113 dX10_isKindOrUnder_13 rfl rfl ?_
                refine v_ic_le (t := 29) (n := 17) xB_113 dX10_isKindOrUnder_14 (by decide) rfl rfl (fun g13 => ?_) (fun g13 => ?_)
                · refine v_iload_n (n := 30) xB_113 dX10_isKindOrUnder_29 rfl rfl ?_
                  refine v_iload_n (n := 31) xB_113 dX10_isKindOrUnder_30 rfl rfl ?_
                  refine v_ic_ne (t := 38) (n := 34) xB_113 dX10_isKindOrUnder_31 (by decide) rfl rfl (fun g14 => ?_) (fun g14 => ?_)
                  · refine v_iconst (n := 39) xB_113 dX10_isKindOrUnder_38 ⟨by decide, by decide⟩ rfl ?_
                    refine v_ireturn1 xB_113 dX10_isKindOrUnder_39 xK_113 (by decide) ?_
                    first | exact o1 (by first | omega | (simp only [sA_same, sA_s, ud_s, Int.reduceEq, if_true, if_false, ite_true, ite_false, ↓reduceIte, and_true, true_and, eq_self, Int.add_zero, Int.reduceAdd]; omega) | (simp (disch := omega) only [sA_same, sA_ne, ud_eq, ud_ne, Int.add_zero, Int.reduceAdd]; omega)) | exact o2 (by first | omega | (simp only [sA_same, sA_s, ud_s, Int.reduceEq, if_true, if_false, ite_true, ite_false, ↓reduceIte, and_true, true_and, eq_self, Int.add_zero, Int.reduceAdd]; omega) | (simp (disch := omega) only [sA_same, sA_ne, ud_eq, ud_ne, Int.add_zero, Int.reduceAdd]; omega))
                  · refine v_iconst (n := 35) xB_113 dX10_isKindOrUnder_34 ⟨by decide, by decide⟩ rfl ?_
                    refine v_goto (t := 39) xB_113 dX10_isKindOrUnder_35 (by decide) rfl ?_
                    refine v_ireturn1 xB_113 dX10_isKindOrUnder_39 xK_113 (by decide) ?_
                    first | exact o1 (by first | omega | (simp only [sA_same, sA_s, ud_s, Int.reduceEq, if_true, if_false, ite_true, ite_false, ↓reduceIte, and_true, true_and, eq_self, Int.add_zero, Int.reduceAdd]; omega) | (simp (disch := omega) only [sA_same, sA_ne, ud_eq, ud_ne, Int.add_zero, Int.reduceAdd]; omega)) | exact o2 (by first | omega | (simp only [sA_same, sA_s, ud_s, Int.reduceEq, if_true, if_false, ite_true, ite_false, ↓reduceIte, and_true, true_and, eq_self, Int.add_zero, Int.reduceAdd]; omega) | (simp (disch := omega) only [sA_same, sA_ne, ud_eq, ud_ne, Int.add_zero, Int.reduceAdd]; omega))
                · refine v_gst_0 (n := 20) xB_113 dX10_isKindOrUnder_17 xO_113 gs_10_291 rfl ?_
                  refine v_iload_n (n := 21) xB_113 dX10_isKindOrUnder_20 rfl rfl ?_
                  refine v_iaload (n := 22) (lz := 7) xB_113 dX10_isKindOrUnder_21 (sh_ka _ _ _) rfl (by first | omega | (simp only [sA_same, sA_s, ud_s, Int.reduceEq, if_true, if_false, ite_true, ite_false, ↓reduceIte, and_true, true_and, eq_self, Int.add_zero, Int.reduceAdd]; omega) | (simp (disch := omega) only [sA_same, sA_ne, ud_eq, ud_ne, Int.add_zero, Int.reduceAdd]; omega)) rfl ?_
                  (try simp only [K0, K1, K2, K3, K4, K5, K6])
                  refine v_istore_n2 (n := 23) xB_113 dX10_isKindOrUnder_22 rfl rfl ?_
                  refine v_iinc3 (n := 26) xB_113 dX10_isKindOrUnder_23 rfl (by first | omega | (simp only [sA_same, sA_s, ud_s, Int.reduceEq, if_true, if_false, ite_true, ite_false, ↓reduceIte, and_true, true_and, eq_self, Int.add_zero, Int.reduceAdd]; omega) | (simp (disch := omega) only [sA_same, sA_ne, ud_eq, ud_ne, Int.add_zero, Int.reduceAdd]; omega)) rfl ?_
                  refine v_goto (t := 4) xB_113 dX10_isKindOrUnder_26 (by decide) rfl ?_
                  refine v_iload_n (n := 5) xB_113 dX10_isKindOrUnder_4 rfl rfl ?_
                  refine v_gst_0 (n := 8) xB_113 dX10_isKindOrUnder_5 xO_113 gs_10_291 rfl ?_
                  refine v_alen (n := 9) (lz := 7) xB_113 dX10_isKindOrUnder_8 (sh_ka _ _ _) (by decide) rfl rfl ?_
                  refine v_ic_ge_y (t := 29) xB_113 dX10_isKindOrUnder_9 (by decide) rfl (by decide) ?_
                  refine v_iload_n (n := 30) xB_113 dX10_isKindOrUnder_29 rfl rfl ?_
                  refine v_iload_n (n := 31) xB_113 dX10_isKindOrUnder_30 rfl rfl ?_
                  refine v_ic_ne (t := 38) (n := 34) xB_113 dX10_isKindOrUnder_31 (by decide) rfl rfl (fun g15 => ?_) (fun g15 => ?_)
                  · refine v_iconst (n := 39) xB_113 dX10_isKindOrUnder_38 ⟨by decide, by decide⟩ rfl ?_
                    refine v_ireturn1 xB_113 dX10_isKindOrUnder_39 xK_113 (by decide) ?_
                    first | exact o1 (by first | omega | (simp only [sA_same, sA_s, ud_s, Int.reduceEq, if_true, if_false, ite_true, ite_false, ↓reduceIte, and_true, true_and, eq_self, Int.add_zero, Int.reduceAdd]; omega) | (simp (disch := omega) only [sA_same, sA_ne, ud_eq, ud_ne, Int.add_zero, Int.reduceAdd]; omega)) | exact o2 (by first | omega | (simp only [sA_same, sA_s, ud_s, Int.reduceEq, if_true, if_false, ite_true, ite_false, ↓reduceIte, and_true, true_and, eq_self, Int.add_zero, Int.reduceAdd]; omega) | (simp (disch := omega) only [sA_same, sA_ne, ud_eq, ud_ne, Int.add_zero, Int.reduceAdd]; omega))
                  · refine v_iconst (n := 35) xB_113 dX10_isKindOrUnder_34 ⟨by decide, by decide⟩ rfl ?_
                    refine v_goto (t := 39) xB_113 dX10_isKindOrUnder_35 (by decide) rfl ?_
                    refine v_ireturn1 xB_113 dX10_isKindOrUnder_39 xK_113 (by decide) ?_
                    first | exact o1 (by first | omega | (simp only [sA_same, sA_s, ud_s, Int.reduceEq, if_true, if_false, ite_true, ite_false, ↓reduceIte, and_true, true_and, eq_self, Int.add_zero, Int.reduceAdd]; omega) | (simp (disch := omega) only [sA_same, sA_ne, ud_eq, ud_ne, Int.add_zero, Int.reduceAdd]; omega)) | exact o2 (by first | omega | (simp only [sA_same, sA_s, ud_s, Int.reduceEq, if_true, if_false, ite_true, ite_false, ↓reduceIte, and_true, true_and, eq_self, Int.add_zero, Int.reduceAdd]; omega) | (simp (disch := omega) only [sA_same, sA_ne, ud_eq, ud_ne, Int.add_zero, Int.reduceAdd]; omega))
