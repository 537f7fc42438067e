/-! The class: small methods. -/
set_option maxHeartbeats 1000000 in
theorem k_isWithin {d : Nat} {v lo hi : Int} {σ : PS} {Q : Option PV → PS → Prop} (hd : 1 ≤ d)  (o1 : (lo ≤ v ∧ v ≤ hi) → Q (some (.inl 1)) σ) (o2 : (¬ (lo ≤ v ∧ v ≤ hi)) → Q (some (.inl 0)) σ) : C d 65 [.inl v, .inl lo, .inl hi] σ Q := by
  refine C_go (k := 0) hd xL_65 (fun d hd => ?_)
  show V d 65 (0, ([some (.inl v), some (.inl lo), some (.inl hi)], ([], σ))) Q
  refine v_iload_n (n := 1) xB_65 dX10_isWithin_0 rfl rfl ?_
  refine v_iload_n (n := 2) xB_65 dX10_isWithin_1 rfl rfl ?_
  refine v_ic_lt (t := 14) (n := 5) xB_65 dX10_isWithin_2 (by decide) rfl rfl (fun g1 => ?_) (fun g1 => ?_)
  · refine v_iconst (n := 15) xB_65 dX10_isWithin_14 ⟨by decide, by decide⟩ rfl ?_
    refine v_ireturn1 xB_65 dX10_isWithin_15 xK_65 (by decide) ?_
    first | exact o1 (by first | omega | (simp only [sA_same, sA_s, ud_s, Int.reduceEq, if_true, if_false, ite_true, ite_false, ↓reduceIte, and_true, true_and, eq_self, Int.add_zero, Int.reduceAdd]; omega) | (simp (disch := omega) only [sA_same, sA_ne, ud_eq, ud_ne, Int.add_zero, Int.reduceAdd]; omega)) | exact o2 (by first | omega | (simp only [sA_same, sA_s, ud_s, Int.reduceEq, if_true, if_false, ite_true, ite_false, ↓reduceIte, and_true, true_and, eq_self, Int.add_zero, Int.reduceAdd]; omega) | (simp (disch := omega) only [sA_same, sA_ne, ud_eq, ud_ne, Int.add_zero, Int.reduceAdd]; omega))
  · refine v_iload_n (n := 6) xB_65 dX10_isWithin_5 rfl rfl ?_
    refine v_iload_n (n := 7) xB_65 dX10_isWithin_6 rfl rfl ?_
    refine v_ic_gt (t := 14) (n := 10) xB_65 dX10_isWithin_7 (by decide) rfl rfl (fun g2 => ?_) (fun g2 => ?_)
    · refine v_iconst (n := 15) xB_65 dX10_isWithin_14 ⟨by decide, by decide⟩ rfl ?_
      refine v_ireturn1 xB_65 dX10_isWithin_15 xK_65 (by decide) ?_
      first | exact o1 (by first | omega | (simp only [sA_same, sA_s, ud_s, Int.reduceEq, if_true, if_false, ite_true, ite_false, ↓reduceIte, and_true, true_and, eq_self, Int.add_zero, Int.reduceAdd]; omega) | (simp (disch := omega) only [sA_same, sA_ne, ud_eq, ud_ne, Int.add_zero, Int.reduceAdd]; omega)) | exact o2 (by first | omega | (simp only [sA_same, sA_s, ud_s, Int.reduceEq, if_true, if_false, ite_true, ite_false, ↓reduceIte, and_true, true_and, eq_self, Int.add_zero, Int.reduceAdd]; omega) | (simp (disch := omega) only [sA_same, sA_ne, ud_eq, ud_ne, Int.add_zero, Int.reduceAdd]; omega))
    · refine v_iconst (n := 11) xB_65 dX10_isWithin_10 ⟨by decide, by decide⟩ rfl ?_
      refine v_goto (t := 15) xB_65 dX10_isWithin_11 (by decide) rfl ?_
      refine v_ireturn1 xB_65 dX10_isWithin_15 xK_65 (by decide) ?_
      first | exact o1 (by first | omega | (simp only [sA_same, sA_s, ud_s, Int.reduceEq, if_true, if_false, ite_true, ite_false, ↓reduceIte, and_true, true_and, eq_self, Int.add_zero, Int.reduceAdd]; omega) | (simp (disch := omega) only [sA_same, sA_ne, ud_eq, ud_ne, Int.add_zero, Int.reduceAdd]; omega)) | exact o2 (by first | omega | (simp only [sA_same, sA_s, ud_s, Int.reduceEq, if_true, if_false, ite_true, ite_false, ↓reduceIte, and_true, true_and, eq_self, Int.add_zero, Int.reduceAdd]; omega) | (simp (disch := omega) only [sA_same, sA_ne, ud_eq, ud_ne, Int.add_zero, Int.reduceAdd]; omega))
set_option maxHeartbeats 1000000 in
theorem k_isTray {d : Nat} {t : Int} {m : PM} {dy : List (Nat × Nat)} {L : Nat} {Q : Option PV → PS → Prop} (hd : 2 ≤ d) (hT : 0 ≤ m 1 2 ∧ m 1 2 ≤ 5) (o1 : (0 ≤ t ∧ t < m 1 2) → Q (some (.inl 1)) (m, (none, (dy, L)))) (o2 : (¬ (0 ≤ t ∧ t < m 1 2)) → Q (some (.inl 0)) (m, (none, (dy, L)))) : C d 66 [.inr (.inr 0), .inl t] (m, (none, (dy, L))) Q := by
  refine C_go (k := 1) hd xL_66 (fun d hd => ?_)
  show V d 66 (0, ([some (.inr (.inr 0)), some (.inl t)], ([], (m, (none, (dy, L)))))) Q
  refine v_iload_n (n := 1) xB_66 dX10_isTray_0 rfl rfl ?_
  refine v_iconst (n := 2) xB_66 dX10_isTray_1 ⟨by decide, by decide⟩ rfl ?_
  refine v_aload_n (n := 3) xB_66 dX10_isTray_2 rfl rfl ?_
  refine v_gf_s (n := 6) (kz := 0) xB_66 dX10_isTray_3 xO_66 fl_10_12 fg_10_0 (sh_0 _ _ _) rfl st_0_0 rfl ?_
  refine v_gf_i (n := 9) (kz := 2) xB_66 dX10_isTray_6 xO_66 fl_10_65 fg_6_2 rfl (sh_1 _ _ _) rfl rfl ?_
  refine v_iconst (n := 10) xB_66 dX10_isTray_9 ⟨by decide, by decide⟩ rfl ?_
  refine v_isub (n := 11) xB_66 dX10_isTray_10 (by first | omega | (simp only [sA_same, sA_s, ud_s, Int.reduceEq, if_true, if_false, ite_true, ite_false, ↓reduceIte, and_true, true_and, eq_self, Int.add_zero, Int.reduceAdd]; omega) | (simp (disch := omega) only [sA_same, sA_ne, ud_eq, ud_ne, Int.add_zero, Int.reduceAdd]; omega)) rfl ?_
  refine v_call_s (n := 14) xB_66 dX10_isTray_11 xO_66 sp_10_69 (Or.inl rfl) iv_10_69 rfl rfl rfl rfl ?_
  refine k_isWithin (by omega)  (fun g1 => ?_) (fun g2 => ?_)
  · refine v_ireturn1 xB_66 dX10_isTray_14 xK_66 (by decide) ?_
    first | exact o1 (by first | omega | (simp only [sA_same, sA_s, ud_s, Int.reduceEq, if_true, if_false, ite_true, ite_false, ↓reduceIte, and_true, true_and, eq_self, Int.add_zero, Int.reduceAdd]; omega) | (simp (disch := omega) only [sA_same, sA_ne, ud_eq, ud_ne, Int.add_zero, Int.reduceAdd]; omega)) | exact o2 (by first | omega | (simp only [sA_same, sA_s, ud_s, Int.reduceEq, if_true, if_false, ite_true, ite_false, ↓reduceIte, and_true, true_and, eq_self, Int.add_zero, Int.reduceAdd]; omega) | (simp (disch := omega) only [sA_same, sA_ne, ud_eq, ud_ne, Int.add_zero, Int.reduceAdd]; omega))
  · refine v_ireturn1 xB_66 dX10_isTray_14 xK_66 (by decide) ?_
    first | exact o1 (by first | omega | (simp only [sA_same, sA_s, ud_s, Int.reduceEq, if_true, if_false, ite_true, ite_false, ↓reduceIte, and_true, true_and, eq_self, Int.add_zero, Int.reduceAdd]; omega) | (simp (disch := omega) only [sA_same, sA_ne, ud_eq, ud_ne, Int.add_zero, Int.reduceAdd]; omega)) | exact o2 (by first | omega | (simp only [sA_same, sA_s, ud_s, Int.reduceEq, if_true, if_false, ite_true, ite_false, ↓reduceIte, and_true, true_and, eq_self, Int.add_zero, Int.reduceAdd]; omega) | (simp (disch := omega) only [sA_same, sA_ne, ud_eq, ud_ne, Int.add_zero, Int.reduceAdd]; omega))
set_option maxHeartbeats 1000000 in
theorem k_isJob {d : Nat} {t : Int} {m : PM} {dy : List (Nat × Nat)} {L : Nat} {Q : Option PV → PS → Prop} (hd : 2 ≤ d) (hT : 0 ≤ m 0 5 ∧ m 0 5 ≤ 6) (o1 : (0 ≤ t ∧ t < m 0 5) → Q (some (.inl 1)) (m, (none, (dy, L)))) (o2 : (¬ (0 ≤ t ∧ t < m 0 5)) → Q (some (.inl 0)) (m, (none, (dy, L)))) : C d 67 [.inr (.inr 0), .inl t] (m, (none, (dy, L))) Q := by
  refine C_go (k := 1) hd xL_67 (fun d hd => ?_)
  show V d 67 (0, ([some (.inr (.inr 0)), some (.inl t)], ([], (m, (none, (dy, L)))))) Q
  refine v_iload_n (n := 1) xB_67 dX10_isJob_0 rfl rfl ?_
  refine v_iconst (n := 2) xB_67 dX10_isJob_1 ⟨by decide, by decide⟩ rfl ?_
  refine v_aload_n (n := 3) xB_67 dX10_isJob_2 rfl rfl ?_
  refine v_gf_i (n := 6) (kz := 5) xB_67 dX10_isJob_3 xO_67 fl_10_73 fg_10_5 rfl (sh_0 _ _ _) rfl rfl ?_
  refine v_iconst (n := 7) xB_67 dX10_isJob_6 ⟨by decide, by decide⟩ rfl ?_
  refine v_isub (n := 8) xB_67 dX10_isJob_7 (by first | omega | (simp only [sA_same, sA_s, ud_s, Int.reduceEq, if_true, if_false, ite_true, ite_false, ↓reduceIte, and_true, true_and, eq_self, Int.add_zero, Int.reduceAdd]; omega) | (simp (disch := omega) only [sA_same, sA_ne, ud_eq, ud_ne, Int.add_zero, Int.reduceAdd]; omega)) rfl ?_
  refine v_call_s (n := 11) xB_67 dX10_isJob_8 xO_67 sp_10_69 (Or.inl rfl) iv_10_69 rfl rfl rfl rfl ?_
  refine k_isWithin (by omega)  (fun g1 => ?_) (fun g2 => ?_)
  · refine v_ireturn1 xB_67 dX10_isJob_11 xK_67 (by decide) ?_
    first | exact o1 (by first | omega | (simp only [sA_same, sA_s, ud_s, Int.reduceEq, if_true, if_false, ite_true, ite_false, ↓reduceIte, and_true, true_and, eq_self, Int.add_zero, Int.reduceAdd]; omega) | (simp (disch := omega) only [sA_same, sA_ne, ud_eq, ud_ne, Int.add_zero, Int.reduceAdd]; omega)) | exact o2 (by first | omega | (simp only [sA_same, sA_s, ud_s, Int.reduceEq, if_true, if_false, ite_true, ite_false, ↓reduceIte, and_true, true_and, eq_self, Int.add_zero, Int.reduceAdd]; omega) | (simp (disch := omega) only [sA_same, sA_ne, ud_eq, ud_ne, Int.add_zero, Int.reduceAdd]; omega))
  · refine v_ireturn1 xB_67 dX10_isJob_11 xK_67 (by decide) ?_
    first | exact o1 (by first | omega | (simp only [sA_same, sA_s, ud_s, Int.reduceEq, if_true, if_false, ite_true, ite_false, ↓reduceIte, and_true, true_and, eq_self, Int.add_zero, Int.reduceAdd]; omega) | (simp (disch := omega) only [sA_same, sA_ne, ud_eq, ud_ne, Int.add_zero, Int.reduceAdd]; omega)) | exact o2 (by first | omega | (simp only [sA_same, sA_s, ud_s, Int.reduceEq, if_true, if_false, ite_true, ite_false, ↓reduceIte, and_true, true_and, eq_self, Int.add_zero, Int.reduceAdd]; omega) | (simp (disch := omega) only [sA_same, sA_ne, ud_eq, ud_ne, Int.add_zero, Int.reduceAdd]; omega))
set_option maxHeartbeats 1000000 in
theorem k_isSheet {d : Nat} {t : Int} {m : PM} {dy : List (Nat × Nat)} {L : Nat} {Q : Option PV → PS → Prop} (hd : 2 ≤ d) (hT : 0 ≤ m 2 1 ∧ m 2 1 ≤ 12) (o1 : (0 ≤ t ∧ t < m 2 1) → Q (some (.inl 1)) (m, (none, (dy, L)))) (o2 : (¬ (0 ≤ t ∧ t < m 2 1)) → Q (some (.inl 0)) (m, (none, (dy, L)))) : C d 68 [.inr (.inr 0), .inl t] (m, (none, (dy, L))) Q := by
  refine C_go (k := 1) hd xL_68 (fun d hd => ?_)
  show V d 68 (0, ([some (.inr (.inr 0)), some (.inl t)], ([], (m, (none, (dy, L)))))) Q
  refine v_iload_n (n := 1) xB_68 dX10_isSheet_0 rfl rfl ?_
  refine v_iconst (n := 2) xB_68 dX10_isSheet_1 ⟨by decide, by decide⟩ rfl ?_
  refine v_aload_n (n := 3) xB_68 dX10_isSheet_2 rfl rfl ?_
  refine v_gf_s (n := 6) (kz := 0) xB_68 dX10_isSheet_3 xO_68 fl_10_12 fg_10_0 (sh_0 _ _ _) rfl st_0_0 rfl ?_
  refine v_gf_s (n := 9) (kz := 0) xB_68 dX10_isSheet_6 xO_68 fl_10_76 fg_6_0 (sh_1 _ _ _) rfl st_1_0 rfl ?_
  refine v_gf_i (n := 12) (kz := 1) xB_68 dX10_isSheet_9 xO_68 fl_10_79 fg_4_1 rfl (sh_2 _ _ _) rfl rfl ?_
  refine v_iconst (n := 13) xB_68 dX10_isSheet_12 ⟨by decide, by decide⟩ rfl ?_
  refine v_isub (n := 14) xB_68 dX10_isSheet_13 (by first | omega | (simp only [sA_same, sA_s, ud_s, Int.reduceEq, if_true, if_false, ite_true, ite_false, ↓reduceIte, and_true, true_and, eq_self, Int.add_zero, Int.reduceAdd]; omega) | (simp (disch := omega) only [sA_same, sA_ne, ud_eq, ud_ne, Int.add_zero, Int.reduceAdd]; omega)) rfl ?_
  refine v_call_s (n := 17) xB_68 dX10_isSheet_14 xO_68 sp_10_69 (Or.inl rfl) iv_10_69 rfl rfl rfl rfl ?_
  refine k_isWithin (by omega)  (fun g1 => ?_) (fun g2 => ?_)
  · refine v_ireturn1 xB_68 dX10_isSheet_17 xK_68 (by decide) ?_
    first | exact o1 (by first | omega | (simp only [sA_same, sA_s, ud_s, Int.reduceEq, if_true, if_false, ite_true, ite_false, ↓reduceIte, and_true, true_and, eq_self, Int.add_zero, Int.reduceAdd]; omega) | (simp (disch := omega) only [sA_same, sA_ne, ud_eq, ud_ne, Int.add_zero, Int.reduceAdd]; omega)) | exact o2 (by first | omega | (simp only [sA_same, sA_s, ud_s, Int.reduceEq, if_true, if_false, ite_true, ite_false, ↓reduceIte, and_true, true_and, eq_self, Int.add_zero, Int.reduceAdd]; omega) | (simp (disch := omega) only [sA_same, sA_ne, ud_eq, ud_ne, Int.add_zero, Int.reduceAdd]; omega))
  · refine v_ireturn1 xB_68 dX10_isSheet_17 xK_68 (by decide) ?_
    first | exact o1 (by first | omega | (simp only [sA_same, sA_s, ud_s, Int.reduceEq, if_true, if_false, ite_true, ite_false, ↓reduceIte, and_true, true_and, eq_self, Int.add_zero, Int.reduceAdd]; omega) | (simp (disch := omega) only [sA_same, sA_ne, ud_eq, ud_ne, Int.add_zero, Int.reduceAdd]; omega)) | exact o2 (by first | omega | (simp only [sA_same, sA_s, ud_s, Int.reduceEq, if_true, if_false, ite_true, ite_false, ↓reduceIte, and_true, true_and, eq_self, Int.add_zero, Int.reduceAdd]; omega) | (simp (disch := omega) only [sA_same, sA_ne, ud_eq, ud_ne, Int.add_zero, Int.reduceAdd]; omega))
set_option maxHeartbeats 1000000 in
theorem k_isTape {d : Nat} {t : Int} {σ : PS} {Q : Option PV → PS → Prop} (hd : 2 ≤ d)  (o1 : (0 ≤ t ∧ t < 6) → Q (some (.inl 1)) σ) (o2 : (¬ (0 ≤ t ∧ t < 6)) → Q (some (.inl 0)) σ) : C d 69 [.inl t] σ Q := by
  refine C_go (k := 1) hd xL_69 (fun d hd => ?_)
  show V d 69 (0, ([some (.inl t)], ([], σ))) Q
  refine v_iload_n (n := 1) xB_69 dX10_isTape_0 rfl rfl ?_
  refine v_iconst (n := 2) xB_69 dX10_isTape_1 ⟨by decide, by decide⟩ rfl ?_
  refine v_iconst (n := 3) xB_69 dX10_isTape_2 ⟨by decide, by decide⟩ rfl ?_
  refine v_call_s (n := 6) xB_69 dX10_isTape_3 xO_69 sp_10_69 (Or.inl rfl) iv_10_69 rfl rfl rfl rfl ?_
  refine k_isWithin (by omega)  (fun g1 => ?_) (fun g2 => ?_)
  · refine v_ireturn1 xB_69 dX10_isTape_6 xK_69 (by decide) ?_
    first | exact o1 (by first | omega | (simp only [sA_same, sA_s, ud_s, Int.reduceEq, if_true, if_false, ite_true, ite_false, ↓reduceIte, and_true, true_and, eq_self, Int.add_zero, Int.reduceAdd]; omega) | (simp (disch := omega) only [sA_same, sA_ne, ud_eq, ud_ne, Int.add_zero, Int.reduceAdd]; omega)) | exact o2 (by first | omega | (simp only [sA_same, sA_s, ud_s, Int.reduceEq, if_true, if_false, ite_true, ite_false, ↓reduceIte, and_true, true_and, eq_self, Int.add_zero, Int.reduceAdd]; omega) | (simp (disch := omega) only [sA_same, sA_ne, ud_eq, ud_ne, Int.add_zero, Int.reduceAdd]; omega))
  · refine v_ireturn1 xB_69 dX10_isTape_6 xK_69 (by decide) ?_
    first | exact o1 (by first | omega | (simp only [sA_same, sA_s, ud_s, Int.reduceEq, if_true, if_false, ite_true, ite_false, ↓reduceIte, and_true, true_and, eq_self, Int.add_zero, Int.reduceAdd]; omega) | (simp (disch := omega) only [sA_same, sA_ne, ud_eq, ud_ne, Int.add_zero, Int.reduceAdd]; omega)) | exact o2 (by first | omega | (simp only [sA_same, sA_s, ud_s, Int.reduceEq, if_true, if_false, ite_true, ite_false, ↓reduceIte, and_true, true_and, eq_self, Int.add_zero, Int.reduceAdd]; omega) | (simp (disch := omega) only [sA_same, sA_ne, ud_eq, ud_ne, Int.add_zero, Int.reduceAdd]; omega))
set_option maxHeartbeats 1000000 in
theorem k_isWay {d : Nat} {t : Int} {σ : PS} {Q : Option PV → PS → Prop} (hd : 2 ≤ d)  (o1 : (0 ≤ t ∧ t ≤ 3) → Q (some (.inl 1)) σ) (o2 : (¬ (0 ≤ t ∧ t ≤ 3)) → Q (some (.inl 0)) σ) : C d 70 [.inl t] σ Q := by
  refine C_go (k := 1) hd xL_70 (fun d hd => ?_)
  show V d 70 (0, ([some (.inl t)], ([], σ))) Q
  refine v_iload_n (n := 1) xB_70 dX10_isWay_0 rfl rfl ?_
  refine v_iconst (n := 2) xB_70 dX10_isWay_1 ⟨by decide, by decide⟩ rfl ?_
  refine v_iconst (n := 3) xB_70 dX10_isWay_2 ⟨by decide, by decide⟩ rfl ?_
  refine v_call_s (n := 6) xB_70 dX10_isWay_3 xO_70 sp_10_69 (Or.inl rfl) iv_10_69 rfl rfl rfl rfl ?_
  refine k_isWithin (by omega)  (fun g1 => ?_) (fun g2 => ?_)
  · refine v_ireturn1 xB_70 dX10_isWay_6 xK_70 (by decide) ?_
    first | exact o1 (by first | omega | (simp only [sA_same, sA_s, ud_s, Int.reduceEq, if_true, if_false, ite_true, ite_false, ↓reduceIte, and_true, true_and, eq_self, Int.add_zero, Int.reduceAdd]; omega) | (simp (disch := omega) only [sA_same, sA_ne, ud_eq, ud_ne, Int.add_zero, Int.reduceAdd]; omega)) | exact o2 (by first | omega | (simp only [sA_same, sA_s, ud_s, Int.reduceEq, if_true, if_false, ite_true, ite_false, ↓reduceIte, and_true, true_and, eq_self, Int.add_zero, Int.reduceAdd]; omega) | (simp (disch := omega) only [sA_same, sA_ne, ud_eq, ud_ne, Int.add_zero, Int.reduceAdd]; omega))
  · refine v_ireturn1 xB_70 dX10_isWay_6 xK_70 (by decide) ?_
    first | exact o1 (by first | omega | (simp only [sA_same, sA_s, ud_s, Int.reduceEq, if_true, if_false, ite_true, ite_false, ↓reduceIte, and_true, true_and, eq_self, Int.add_zero, Int.reduceAdd]; omega) | (simp (disch := omega) only [sA_same, sA_ne, ud_eq, ud_ne, Int.add_zero, Int.reduceAdd]; omega)) | exact o2 (by first | omega | (simp only [sA_same, sA_s, ud_s, Int.reduceEq, if_true, if_false, ite_true, ite_false, ↓reduceIte, and_true, true_and, eq_self, Int.add_zero, Int.reduceAdd]; omega) | (simp (disch := omega) only [sA_same, sA_ne, ud_eq, ud_ne, Int.add_zero, Int.reduceAdd]; omega))
set_option maxHeartbeats 1000000 in
theorem k_isEither {d : Nat} {t : Int} {σ : PS} {Q : Option PV → PS → Prop} (hd : 2 ≤ d)  (o1 : (0 ≤ t ∧ t ≤ 1) → Q (some (.inl 1)) σ) (o2 : (¬ (0 ≤ t ∧ t ≤ 1)) → Q (some (.inl 0)) σ) : C d 71 [.inl t] σ Q := by
  refine C_go (k := 1) hd xL_71 (fun d hd => ?_)
  show V d 71 (0, ([some (.inl t)], ([], σ))) Q
  refine v_iload_n (n := 1) xB_71 dX10_isEither_0 rfl rfl ?_
  refine v_iconst (n := 2) xB_71 dX10_isEither_1 ⟨by decide, by decide⟩ rfl ?_
  refine v_iconst (n := 3) xB_71 dX10_isEither_2 ⟨by decide, by decide⟩ rfl ?_
  refine v_call_s (n := 6) xB_71 dX10_isEither_3 xO_71 sp_10_69 (Or.inl rfl) iv_10_69 rfl rfl rfl rfl ?_
  refine k_isWithin (by omega)  (fun g1 => ?_) (fun g2 => ?_)
  · refine v_ireturn1 xB_71 dX10_isEither_6 xK_71 (by decide) ?_
    first | exact o1 (by first | omega | (simp only [sA_same, sA_s, ud_s, Int.reduceEq, if_true, if_false, ite_true, ite_false, ↓reduceIte, and_true, true_and, eq_self, Int.add_zero, Int.reduceAdd]; omega) | (simp (disch := omega) only [sA_same, sA_ne, ud_eq, ud_ne, Int.add_zero, Int.reduceAdd]; omega)) | exact o2 (by first | omega | (simp only [sA_same, sA_s, ud_s, Int.reduceEq, if_true, if_false, ite_true, ite_false, ↓reduceIte, and_true, true_and, eq_self, Int.add_zero, Int.reduceAdd]; omega) | (simp (disch := omega) only [sA_same, sA_ne, ud_eq, ud_ne, Int.add_zero, Int.reduceAdd]; omega))
  · refine v_ireturn1 xB_71 dX10_isEither_6 xK_71 (by decide) ?_
    first | exact o1 (by first | omega | (simp only [sA_same, sA_s, ud_s, Int.reduceEq, if_true, if_false, ite_true, ite_false, ↓reduceIte, and_true, true_and, eq_self, Int.add_zero, Int.reduceAdd]; omega) | (simp (disch := omega) only [sA_same, sA_ne, ud_eq, ud_ne, Int.add_zero, Int.reduceAdd]; omega)) | exact o2 (by first | omega | (simp only [sA_same, sA_s, ud_s, Int.reduceEq, if_true, if_false, ite_true, ite_false, ↓reduceIte, and_true, true_and, eq_self, Int.add_zero, Int.reduceAdd]; omega) | (simp (disch := omega) only [sA_same, sA_ne, ud_eq, ud_ne, Int.add_zero, Int.reduceAdd]; omega))
set_option maxHeartbeats 1000000 in
theorem k_isSide {d : Nat} {s k p : Int} {σ : PS} {Q : Option PV → PS → Prop} (hd : 3 ≤ d)  (o1 : ((0 ≤ s ∧ s ≤ 11) ∧ (0 ≤ k ∧ k ≤ 1) ∧ ((0 ≤ p ∧ p ≤ 60) ∨ p = 99)) → Q (some (.inl 1)) σ) (o2 : (¬ ((0 ≤ s ∧ s ≤ 11) ∧ (0 ≤ k ∧ k ≤ 1) ∧ ((0 ≤ p ∧ p ≤ 60) ∨ p = 99))) → Q (some (.inl 0)) σ) : C d 72 [.inl s, .inl k, .inl p] σ Q := by
  refine C_go (k := 2) hd xL_72 (fun d hd => ?_)
  show V d 72 (0, ([some (.inl s), some (.inl k), some (.inl p)], ([], σ))) Q
  refine v_iload_n (n := 1) xB_72 dX10_isSide_0 rfl rfl ?_
  refine v_iconst (n := 2) xB_72 dX10_isSide_1 ⟨by decide, by decide⟩ rfl ?_
  refine v_bipush (n := 4) xB_72 dX10_isSide_2 ⟨by decide, by decide⟩ rfl ?_
  refine v_call_s (n := 7) xB_72 dX10_isSide_4 xO_72 sp_10_69 (Or.inl rfl) iv_10_69 rfl rfl rfl rfl ?_
  refine k_isWithin (by omega)  (fun g1 => ?_) (fun g2 => ?_)
  · refine v_if_eq_n (n := 10) xB_72 dX10_isSide_7 (by decide) rfl (by decide) ?_
    refine v_iload_n (n := 11) xB_72 dX10_isSide_10 rfl rfl ?_
    refine v_call_s (n := 14) xB_72 dX10_isSide_11 xO_72 sp_10_82 (Or.inl rfl) iv_10_82 rfl rfl rfl rfl ?_
    refine k_isEither (by omega)  (fun g3 => ?_) (fun g4 => ?_)
    · refine v_if_eq_n (n := 17) xB_72 dX10_isSide_14 (by decide) rfl (by decide) ?_
      refine v_iload_n (n := 18) xB_72 dX10_isSide_17 rfl rfl ?_
      refine v_iconst (n := 19) xB_72 dX10_isSide_18 ⟨by decide, by decide⟩ rfl ?_
      refine v_bipush (n := 21) xB_72 dX10_isSide_19 ⟨by decide, by decide⟩ rfl ?_
      refine v_call_s (n := 24) xB_72 dX10_isSide_21 xO_72 sp_10_69 (Or.inl rfl) iv_10_69 rfl rfl rfl rfl ?_
      refine k_isWithin (by omega)  (fun g5 => ?_) (fun g6 => ?_)
      · refine v_if_ne_y (t := 33) xB_72 dX10_isSide_24 (by decide) rfl (by decide) ?_
        refine v_iconst (n := 34) xB_72 dX10_isSide_33 ⟨by decide, by decide⟩ rfl ?_
        refine v_goto (t := 38) xB_72 dX10_isSide_34 (by decide) rfl ?_
        refine v_ireturn1 xB_72 dX10_isSide_38 xK_72 (by decide) ?_
        first | exact o1 (by first | omega | (simp only [sA_same, sA_s, ud_s, Int.reduceEq, if_true, if_false, ite_true, ite_false, ↓reduceIte, and_true, true_and, eq_self, Int.add_zero, Int.reduceAdd]; omega) | (simp (disch := omega) only [sA_same, sA_ne, ud_eq, ud_ne, Int.add_zero, Int.reduceAdd]; omega)) | exact o2 (by first | omega | (simp only [sA_same, sA_s, ud_s, Int.reduceEq, if_true, if_false, ite_true, ite_false, ↓reduceIte, and_true, true_and, eq_self, Int.add_zero, Int.reduceAdd]; omega) | (simp (disch := omega) only [sA_same, sA_ne, ud_eq, ud_ne, Int.add_zero, Int.reduceAdd]; omega))
      · refine v_if_ne_n (n := 27) xB_72 dX10_isSide_24 (by decide) rfl (by decide) ?_
        refine v_iload_n (n := 28) xB_72 dX10_isSide_27 rfl rfl ?_
        refine v_bipush (n := 30) xB_72 dX10_isSide_28 ⟨by decide, by decide⟩ rfl ?_
        refine v_ic_ne (t := 37) (n := 33) xB_72 dX10_isSide_30 (by decide) rfl rfl (fun g7 => ?_) (fun g7 => ?_)
        · refine v_iconst (n := 38) xB_72 dX10_isSide_37 ⟨by decide, by decide⟩ rfl ?_
          refine v_ireturn1 xB_72 dX10_isSide_38 xK_72 (by decide) ?_
          first | exact o1 (by first | omega | (simp only [sA_same, sA_s, ud_s, Int.reduceEq, if_true, if_false, ite_true, ite_false, ↓reduceIte, and_true, true_and, eq_self, Int.add_zero, Int.reduceAdd]; omega) | (simp (disch := omega) only [sA_same, sA_ne, ud_eq, ud_ne, Int.add_zero, Int.reduceAdd]; omega)) | exact o2 (by first | omega | (simp only [sA_same, sA_s, ud_s, Int.reduceEq, if_true, if_false, ite_true, ite_false, ↓reduceIte, and_true, true_and, eq_self, Int.add_zero, Int.reduceAdd]; omega) | (simp (disch := omega) only [sA_same, sA_ne, ud_eq, ud_ne, Int.add_zero, Int.reduceAdd]; omega))
        · refine v_iconst (n := 34) xB_72 dX10_isSide_33 ⟨by decide, by decide⟩ rfl ?_
          refine v_goto (t := 38) xB_72 dX10_isSide_34 (by decide) rfl ?_
          refine v_ireturn1 xB_72 dX10_isSide_38 xK_72 (by decide) ?_
          first | exact o1 (by first | omega | (simp only [sA_same, sA_s, ud_s, Int.reduceEq, if_true, if_false, ite_true, ite_false, ↓reduceIte, and_true, true_and, eq_self, Int.add_zero, Int.reduceAdd]; omega) | (simp (disch := omega) only [sA_same, sA_ne, ud_eq, ud_ne, Int.add_zero, Int.reduceAdd]; omega)) | exact o2 (by first | omega | (simp only [sA_same, sA_s, ud_s, Int.reduceEq, if_true, if_false, ite_true, ite_false, ↓reduceIte, and_true, true_and, eq_self, Int.add_zero, Int.reduceAdd]; omega) | (simp (disch := omega) only [sA_same, sA_ne, ud_eq, ud_ne, Int.add_zero, Int.reduceAdd]; omega))
    · refine v_if_eq_y (t := 37) xB_72 dX10_isSide_14 (by decide) rfl (by decide) ?_
      refine v_iconst (n := 38) xB_72 dX10_isSide_37 ⟨by decide, by decide⟩ rfl ?_
      refine v_ireturn1 xB_72 dX10_isSide_38 xK_72 (by decide) ?_
      first | exact o1 (by first | omega | (simp only [sA_same, sA_s, ud_s, Int.reduceEq, if_true, if_false, ite_true, ite_false, ↓reduceIte, and_true, true_and, eq_self, Int.add_zero, Int.reduceAdd]; omega) | (simp (disch := omega) only [sA_same, sA_ne, ud_eq, ud_ne, Int.add_zero, Int.reduceAdd]; omega)) | exact o2 (by first | omega | (simp only [sA_same, sA_s, ud_s, Int.reduceEq, if_true, if_false, ite_true, ite_false, ↓reduceIte, and_true, true_and, eq_self, Int.add_zero, Int.reduceAdd]; omega) | (simp (disch := omega) only [sA_same, sA_ne, ud_eq, ud_ne, Int.add_zero, Int.reduceAdd]; omega))
  · refine v_if_eq_y (t := 37) xB_72 dX10_isSide_7 (by decide) rfl (by decide) ?_
    refine v_iconst (n := 38) xB_72 dX10_isSide_37 ⟨by decide, by decide⟩ rfl ?_
    refine v_ireturn1 xB_72 dX10_isSide_38 xK_72 (by decide) ?_
    first | exact o1 (by first | omega | (simp only [sA_same, sA_s, ud_s, Int.reduceEq, if_true, if_false, ite_true, ite_false, ↓reduceIte, and_true, true_and, eq_self, Int.add_zero, Int.reduceAdd]; omega) | (simp (disch := omega) only [sA_same, sA_ne, ud_eq, ud_ne, Int.add_zero, Int.reduceAdd]; omega)) | exact o2 (by first | omega | (simp only [sA_same, sA_s, ud_s, Int.reduceEq, if_true, if_false, ite_true, ite_false, ↓reduceIte, and_true, true_and, eq_self, Int.add_zero, Int.reduceAdd]; omega) | (simp (disch := omega) only [sA_same, sA_ne, ud_eq, ud_ne, Int.add_zero, Int.reduceAdd]; omega))
set_option maxHeartbeats 1000000 in
theorem k_fill4 {d : Nat} {a z : Int} {m : PM} {dy : List (Nat × Nat)} {L : Nat} {Q : Option PV → PS → Prop} (hd : 1 ≤ d) (hsh : ∀ m : PM, shp (m, (none, (dy, L))) a = (1, 4)) (h0 : 0 ≤ a) (o1 : Q (none) (setA m a (ivl (fun _ => z) (m a) 0 4), (none, (dy, L)))) : C d 227 [.inr (.inr a), .inl z] (m, (none, (dy, L))) Q := by
  refine C_go (k := 0) hd xL_227 (fun d hd => ?_)
  show V d 227 (0, ([some (.inr (.inr a)), some (.inl z), none, none], ([], (m, (none, (dy, L)))))) Q
  refine v_iconst (n := 1) xB_227 dJ7_fill_53178_0 ⟨by decide, by decide⟩ rfl ?_
  refine v_istore_n2 (n := 2) xB_227 dJ7_fill_53178_1 rfl rfl ?_
  refine v_aload_n (n := 3) xB_227 dJ7_fill_53178_2 rfl rfl ?_
  refine v_alen (n := 4) (lz := 4) xB_227 dJ7_fill_53178_3 (hsh _) (by decide) rfl rfl ?_
  refine v_istore_n3 (n := 5) xB_227 dJ7_fill_53178_4 rfl rfl ?_
  refine lp_up (F := fun (k : Int) (m' : PM) => V d 227 (5, ([some (.inr (.inr a)), some (.inl z), some (.inl (k)), some (.inl 4)], ([], (m', (none, (dy, L)))))) Q) (E := fun (k : Int) (m' : PM) => m' = setA m a (ivl (fun _ => z) (m a) 0 (k))) (a := 0) (b := 4) ?_ ?_ (0) (_) (by first | omega | (simp only [sA_same, sA_s, ud_s, Int.reduceEq, if_true, if_false, ite_true, ite_false, ↓reduceIte, and_true, true_and, eq_self, Int.add_zero, Int.reduceAdd]; omega) | (simp (disch := omega) only [sA_same, sA_ne, ud_eq, ud_ne, Int.add_zero, Int.reduceAdd]; omega)) (by first | omega | (simp only [sA_same, sA_s, ud_s, Int.reduceEq, if_true, if_false, ite_true, ite_false, ↓reduceIte, and_true, true_and, eq_self, Int.add_zero, Int.reduceAdd]; omega) | (simp (disch := omega) only [sA_same, sA_ne, ud_eq, ud_ne, Int.add_zero, Int.reduceAdd]; omega)) ?_
  · intro m' hm 
    show V d 227 (5, ([some (.inr (.inr a)), some (.inl z), some (.inl (4)), some (.inl 4)], ([], (m', (none, (dy, L)))))) Q
    subst hm
    refine v_iload_n (n := 6) xB_227 dJ7_fill_53178_5 rfl rfl ?_
    refine v_iload_n (n := 7) xB_227 dJ7_fill_53178_6 rfl rfl ?_
    refine v_ic_ge_y (t := 20) xB_227 dJ7_fill_53178_7 (by decide) rfl (by first | omega | (simp only [sA_same, sA_s, ud_s, Int.reduceEq, if_true, if_false, ite_true, ite_false, ↓reduceIte, and_true, true_and, eq_self, Int.add_zero, Int.reduceAdd]; omega) | (simp (disch := omega) only [sA_same, sA_ne, ud_eq, ud_ne, Int.add_zero, Int.reduceAdd]; omega)) ?_
    refine v_return xB_227 dJ7_fill_53178_20 xK_227 ?_
    exact o1
  · intro k m' h1 h2 hm ih 
    show V d 227 (5, ([some (.inr (.inr a)), some (.inl z), some (.inl (k)), some (.inl 4)], ([], (m', (none, (dy, L)))))) Q
    subst hm
    refine v_iload_n (n := 6) xB_227 dJ7_fill_53178_5 rfl rfl ?_
    refine v_iload_n (n := 7) xB_227 dJ7_fill_53178_6 rfl rfl ?_
    refine v_ic_ge_n (n := 10) xB_227 dJ7_fill_53178_7 (by decide) rfl (by first | omega | (simp only [sA_same, sA_s, ud_s, Int.reduceEq, if_true, if_false, ite_true, ite_false, ↓reduceIte, and_true, true_and, eq_self, Int.add_zero, Int.reduceAdd]; omega) | (simp (disch := omega) only [sA_same, sA_ne, ud_eq, ud_ne, Int.add_zero, Int.reduceAdd]; omega)) ?_
    refine v_aload_n (n := 11) xB_227 dJ7_fill_53178_10 rfl rfl ?_
    refine v_iload_n (n := 12) xB_227 dJ7_fill_53178_11 rfl rfl ?_
    refine v_iload_n (n := 13) xB_227 dJ7_fill_53178_12 rfl rfl ?_
    refine v_iastore (n := 14) (lz := 4) xB_227 dJ7_fill_53178_13 (hsh _) h0 rfl (by first | omega | (simp only [sA_same, sA_s, ud_s, Int.reduceEq, if_true, if_false, ite_true, ite_false, ↓reduceIte, and_true, true_and, eq_self, Int.add_zero, Int.reduceAdd]; omega) | (simp (disch := omega) only [sA_same, sA_ne, ud_eq, ud_ne, Int.add_zero, Int.reduceAdd]; omega)) rfl ?_
    (try simp (disch := omega) only [sA_same, sA_ne, sA_sA, sA_sr, sB_s, ud_eq, ud_ne, ud_ud, ud_sr, uB_s, Int.add_zero, Int.reduceAdd])
    refine v_iinc2 (n := 17) xB_227 dJ7_fill_53178_14 rfl (by first | omega | (simp only [sA_same, sA_s, ud_s, Int.reduceEq, if_true, if_false, ite_true, ite_false, ↓reduceIte, and_true, true_and, eq_self, Int.add_zero, Int.reduceAdd]; omega) | (simp (disch := omega) only [sA_same, sA_ne, ud_eq, ud_ne, Int.add_zero, Int.reduceAdd]; omega)) rfl ?_
    refine v_goto (t := 5) xB_227 dJ7_fill_53178_17 (by decide) rfl ?_
    refine ih _ ?_
    (try simp (disch := omega) only [sA_same, sA_ne, sA_sA, sA_sr, sB_s, ud_eq, ud_ne, ud_ud, ud_sr, uB_s, Int.add_zero, Int.reduceAdd])
    congr 1
    exact (by funext j'; simp only [ud_s, ivl]; (repeat' split) <;> first | rfl | omega | (exfalso; omega))
  · rw [ivl_0 (by omega), sA_id]
set_option maxHeartbeats 1000000 in
theorem k_fill60 {d : Nat} {a z : Int} {m : PM} {dy : List (Nat × Nat)} {L : Nat} {Q : Option PV → PS → Prop} (hd : 1 ≤ d) (hsh : ∀ m : PM, shp (m, (none, (dy, L))) a = (3, 60)) (h0 : 0 ≤ a) (o1 : Q (none) (setA m a (ivl (fun _ => z) (m a) 0 60), (none, (dy, L)))) : C d 228 [.inr (.inr a), .inr (.inl z)] (m, (none, (dy, L))) Q := by
  refine C_go (k := 0) hd xL_228 (fun d hd => ?_)
  show V d 228 (0, ([some (.inr (.inr a)), some (.inr (.inl z)), none, none, none], ([], (m, (none, (dy, L)))))) Q
  refine v_iconst (n := 1) xB_228 dJ7_fill_d0a16_0 ⟨by decide, by decide⟩ rfl ?_
  refine v_istore_n3 (n := 2) xB_228 dJ7_fill_d0a16_1 rfl rfl ?_
  refine v_aload_n (n := 3) xB_228 dJ7_fill_d0a16_2 rfl rfl ?_
  refine v_alen (n := 4) (lz := 60) xB_228 dJ7_fill_d0a16_3 (hsh _) (by decide) rfl rfl ?_
  refine v_istore4 (n := 6) xB_228 dJ7_fill_d0a16_4 rfl rfl ?_
  refine lp_up (F := fun (k : Int) (m' : PM) => V d 228 (6, ([some (.inr (.inr a)), some (.inr (.inl z)), none, some (.inl (k)), some (.inl 60)], ([], (m', (none, (dy, L)))))) Q) (E := fun (k : Int) (m' : PM) => m' = setA m a (ivl (fun _ => z) (m a) 0 (k))) (a := 0) (b := 60) ?_ ?_ (0) (_) (by first | omega | (simp only [sA_same, sA_s, ud_s, Int.reduceEq, if_true, if_false, ite_true, ite_false, ↓reduceIte, and_true, true_and, eq_self, Int.add_zero, Int.reduceAdd]; omega) | (simp (disch := omega) only [sA_same, sA_ne, ud_eq, ud_ne, Int.add_zero, Int.reduceAdd]; omega)) (by first | omega | (simp only [sA_same, sA_s, ud_s, Int.reduceEq, if_true, if_false, ite_true, ite_false, ↓reduceIte, and_true, true_and, eq_self, Int.add_zero, Int.reduceAdd]; omega) | (simp (disch := omega) only [sA_same, sA_ne, ud_eq, ud_ne, Int.add_zero, Int.reduceAdd]; omega)) ?_
  · intro m' hm 
    show V d 228 (6, ([some (.inr (.inr a)), some (.inr (.inl z)), none, some (.inl (60)), some (.inl 60)], ([], (m', (none, (dy, L)))))) Q
    subst hm
    refine v_iload_n (n := 7) xB_228 dJ7_fill_d0a16_6 rfl rfl ?_
    refine v_iload (n := 9) xB_228 dJ7_fill_d0a16_7 rfl rfl ?_
    refine v_ic_ge_y (t := 22) xB_228 dJ7_fill_d0a16_9 (by decide) rfl (by first | omega | (simp only [sA_same, sA_s, ud_s, Int.reduceEq, if_true, if_false, ite_true, ite_false, ↓reduceIte, and_true, true_and, eq_self, Int.add_zero, Int.reduceAdd]; omega) | (simp (disch := omega) only [sA_same, sA_ne, ud_eq, ud_ne, Int.add_zero, Int.reduceAdd]; omega)) ?_
    refine v_return xB_228 dJ7_fill_d0a16_22 xK_228 ?_
    exact o1
  · intro k m' h1 h2 hm ih 
    show V d 228 (6, ([some (.inr (.inr a)), some (.inr (.inl z)), none, some (.inl (k)), some (.inl 60)], ([], (m', (none, (dy, L)))))) Q
    subst hm
    refine v_iload_n (n := 7) xB_228 dJ7_fill_d0a16_6 rfl rfl ?_
    refine v_iload (n := 9) xB_228 dJ7_fill_d0a16_7 rfl rfl ?_
    refine v_ic_ge_n (n := 12) xB_228 dJ7_fill_d0a16_9 (by decide) rfl (by first | omega | (simp only [sA_same, sA_s, ud_s, Int.reduceEq, if_true, if_false, ite_true, ite_false, ↓reduceIte, and_true, true_and, eq_self, Int.add_zero, Int.reduceAdd]; omega) | (simp (disch := omega) only [sA_same, sA_ne, ud_eq, ud_ne, Int.add_zero, Int.reduceAdd]; omega)) ?_
    refine v_aload_n (n := 13) xB_228 dJ7_fill_d0a16_12 rfl rfl ?_
    refine v_iload_n (n := 14) xB_228 dJ7_fill_d0a16_13 rfl rfl ?_
    refine v_lload_n (n := 15) xB_228 dJ7_fill_d0a16_14 rfl rfl ?_
    refine v_lastore (n := 16) (lz := 60) xB_228 dJ7_fill_d0a16_15 (hsh _) h0 rfl (by first | omega | (simp only [sA_same, sA_s, ud_s, Int.reduceEq, if_true, if_false, ite_true, ite_false, ↓reduceIte, and_true, true_and, eq_self, Int.add_zero, Int.reduceAdd]; omega) | (simp (disch := omega) only [sA_same, sA_ne, ud_eq, ud_ne, Int.add_zero, Int.reduceAdd]; omega)) rfl ?_
    (try simp (disch := omega) only [sA_same, sA_ne, sA_sA, sA_sr, sB_s, ud_eq, ud_ne, ud_ud, ud_sr, uB_s, Int.add_zero, Int.reduceAdd])
    refine v_iinc3 (n := 19) xB_228 dJ7_fill_d0a16_16 rfl (by first | omega | (simp only [sA_same, sA_s, ud_s, Int.reduceEq, if_true, if_false, ite_true, ite_false, ↓reduceIte, and_true, true_and, eq_self, Int.add_zero, Int.reduceAdd]; omega) | (simp (disch := omega) only [sA_same, sA_ne, ud_eq, ud_ne, Int.add_zero, Int.reduceAdd]; omega)) rfl ?_
    refine v_goto (t := 6) xB_228 dJ7_fill_d0a16_19 (by decide) rfl ?_
    refine ih _ ?_
    (try simp (disch := omega) only [sA_same, sA_ne, sA_sA, sA_sr, sB_s, ud_eq, ud_ne, ud_ud, ud_sr, uB_s, Int.add_zero, Int.reduceAdd])
    congr 1
    exact (by funext j'; simp only [ud_s, ivl]; (repeat' split) <;> first | rfl | omega | (exfalso; omega))
  · rw [ivl_0 (by omega), sA_id]
set_option maxHeartbeats 1000000 in
theorem k_begin {d : Nat} {t k v : Int} {m : PM} {dy : List (Nat × Nat)} {L : Nat} {Q : Option PV → PS → Prop} (hd : 2 ≤ d) (ht : 0 ≤ t ∧ t < 5) (o1 : Q (none) (setA (setA m (17 + 2 * t) (ud (ud (ud (m (17 + 2 * t)) 0 k) 1 v) 2 0)) (18 + 2 * t) (ivl (fun _ => 0) (m (18 + 2 * t)) 0 4), (none, (dy, L)))) : C d 62 [.inr (.inr (17 + 2 * t)), .inl k, .inl v] (m, (none, (dy, L))) Q := by
  refine C_go (k := 1) hd xL_62 (fun d hd => ?_)
  show V d 62 (0, ([some (.inr (.inr (17 + 2 * t))), some (.inl k), some (.inl v)], ([], (m, (none, (dy, L)))))) Q
  refine v_aload_n (n := 1) xB_62 dX9_begin_0 rfl rfl ?_
  refine v_iload_n (n := 2) xB_62 dX9_begin_1 rfl rfl ?_
  refine v_pf_i (n := 5) (kz := 0) xB_62 dX9_begin_2 xO_62 fl_9_15 fg_9_0 (Or.inl fn_9_0) (sh_T (by first | omega | (simp only [sA_same, sA_s, ud_s, Int.reduceEq, if_true, if_false, ite_true, ite_false, ↓reduceIte, and_true, true_and, eq_self, Int.add_zero, Int.reduceAdd]; omega) | (simp (disch := omega) only [sA_same, sA_ne, ud_eq, ud_ne, Int.add_zero, Int.reduceAdd]; omega)) _ _ _) (by first | omega | (simp only [sA_same, sA_s, ud_s, Int.reduceEq, if_true, if_false, ite_true, ite_false, ↓reduceIte, and_true, true_and, eq_self, Int.add_zero, Int.reduceAdd]; omega) | (simp (disch := omega) only [sA_same, sA_ne, ud_eq, ud_ne, Int.add_zero, Int.reduceAdd]; omega)) rfl rfl ?_
  (try simp (disch := omega) only [sA_same, sA_ne, sA_sA, sA_sr, sB_s, ud_eq, ud_ne, ud_ud, ud_sr, uB_s, Int.add_zero, Int.reduceAdd])
  refine v_aload_n (n := 6) xB_62 dX9_begin_5 rfl rfl ?_
  refine v_iload_n (n := 7) xB_62 dX9_begin_6 rfl rfl ?_
  refine v_pf_i (n := 10) (kz := 1) xB_62 dX9_begin_7 xO_62 fl_9_19 fg_9_1 (Or.inl fn_9_1) (sh_T (by first | omega | (simp only [sA_same, sA_s, ud_s, Int.reduceEq, if_true, if_false, ite_true, ite_false, ↓reduceIte, and_true, true_and, eq_self, Int.add_zero, Int.reduceAdd]; omega) | (simp (disch := omega) only [sA_same, sA_ne, ud_eq, ud_ne, Int.add_zero, Int.reduceAdd]; omega)) _ _ _) (by first | omega | (simp only [sA_same, sA_s, ud_s, Int.reduceEq, if_true, if_false, ite_true, ite_false, ↓reduceIte, and_true, true_and, eq_self, Int.add_zero, Int.reduceAdd]; omega) | (simp (disch := omega) only [sA_same, sA_ne, ud_eq, ud_ne, Int.add_zero, Int.reduceAdd]; omega)) rfl rfl ?_
  (try simp (disch := omega) only [sA_same, sA_ne, sA_sA, sA_sr, sB_s, ud_eq, ud_ne, ud_ud, ud_sr, uB_s, Int.add_zero, Int.reduceAdd])
  refine v_aload_n (n := 11) xB_62 dX9_begin_10 rfl rfl ?_
  refine v_iconst (n := 12) xB_62 dX9_begin_11 ⟨by decide, by decide⟩ rfl ?_
  refine v_pf_i (n := 15) (kz := 2) xB_62 dX9_begin_12 xO_62 fl_9_22 fg_9_2 (Or.inl fn_9_2) (sh_T (by first | omega | (simp only [sA_same, sA_s, ud_s, Int.reduceEq, if_true, if_false, ite_true, ite_false, ↓reduceIte, and_true, true_and, eq_self, Int.add_zero, Int.reduceAdd]; omega) | (simp (disch := omega) only [sA_same, sA_ne, ud_eq, ud_ne, Int.add_zero, Int.reduceAdd]; omega)) _ _ _) (by first | omega | (simp only [sA_same, sA_s, ud_s, Int.reduceEq, if_true, if_false, ite_true, ite_false, ↓reduceIte, and_true, true_and, eq_self, Int.add_zero, Int.reduceAdd]; omega) | (simp (disch := omega) only [sA_same, sA_ne, ud_eq, ud_ne, Int.add_zero, Int.reduceAdd]; omega)) rfl rfl ?_
  (try simp (disch := omega) only [sA_same, sA_ne, sA_sA, sA_sr, sB_s, ud_eq, ud_ne, ud_ud, ud_sr, uB_s, Int.add_zero, Int.reduceAdd])
  refine v_aload_n (n := 16) xB_62 dX9_begin_15 rfl rfl ?_
  refine v_gf_s (n := 19) (kz := 3) xB_62 dX9_begin_16 xO_62 fl_9_9 fg_9_3 (sh_T (by first | omega | (simp only [sA_same, sA_s, ud_s, Int.reduceEq, if_true, if_false, ite_true, ite_false, ↓reduceIte, and_true, true_and, eq_self, Int.add_zero, Int.reduceAdd]; omega) | (simp (disch := omega) only [sA_same, sA_ne, ud_eq, ud_ne, Int.add_zero, Int.reduceAdd]; omega)) _ _ _) rfl (st_TP (by first | omega | (simp only [sA_same, sA_s, ud_s, Int.reduceEq, if_true, if_false, ite_true, ite_false, ↓reduceIte, and_true, true_and, eq_self, Int.add_zero, Int.reduceAdd]; omega) | (simp (disch := omega) only [sA_same, sA_ne, ud_eq, ud_ne, Int.add_zero, Int.reduceAdd]; omega))) rfl ?_
  refine v_iconst (n := 20) xB_62 dX9_begin_19 ⟨by decide, by decide⟩ rfl ?_
  refine v_call_s (n := 23) xB_62 dX9_begin_20 xO_62 sp_9_25 (Or.inl rfl) iv_9_25 rfl rfl rfl rfl ?_
  refine k_fill4 (by omega) (fun m => sh_TP ht _ _ _) (by omega) ?_
  (try simp (disch := omega) only [sA_same, sA_ne, sA_sA, sA_sr, sB_s, ud_eq, ud_ne, ud_ud, ud_sr, uB_s, Int.add_zero, Int.reduceAdd])
  refine v_return xB_62 dX9_begin_23 xK_62 ?_
  exact o1
set_option maxHeartbeats 1000000 in
theorem k_isFull {d : Nat} {q : Int} {m : PM} {dy : List (Nat × Nat)} {L : Nat} {Q : Option PV → PS → Prop} (hd : 1 ≤ d) (hq : notA q) (o1 : ((notN q : Int) ≤ m q 3) → Q (some (.inl 1)) (m, (none, (dy, L)))) (o2 : (¬ ((notN q : Int) ≤ m q 3)) → Q (some (.inl 0)) (m, (none, (dy, L)))) : C d 20 [.inr (.inr q)] (m, (none, (dy, L))) Q := by
  refine C_go (k := 0) hd xL_20 (fun d hd => ?_)
  show V d 20 (0, ([some (.inr (.inr q))], ([], (m, (none, (dy, L)))))) Q
  have hqd : q = 5 ∨ q = 9 ∨ q = 13 ∨ q = 31 ∨ q = 35 ∨ q = 39 := hq
  have hnn : notN q ≤ 8 := by unfold notN; (repeat' split) <;> omega
  refine v_aload_n (n := 1) xB_20 dX3_isFull_0 rfl rfl ?_
  refine v_gf_i (n := 4) (kz := 3) xB_20 dX3_isFull_1 xO_20 fl_3_19 fg_3_3 rfl (sh_N hq _ _ _) rfl rfl ?_
  refine v_aload_n (n := 5) xB_20 dX3_isFull_4 rfl rfl ?_
  refine v_gf_s (n := 8) (kz := 0) xB_20 dX3_isFull_5 xO_20 fl_3_7 fg_3_0 (sh_N hq _ _ _) rfl (st_N1 hq) rfl ?_
  refine v_alen (n := 9) (lz := (notN q : Int)) xB_20 dX3_isFull_8 (sh_N1 hq _ _ _) (by decide) rfl rfl ?_
  refine v_ic_lt (t := 16) (n := 12) xB_20 dX3_isFull_9 (by decide) rfl rfl (fun g1 => ?_) (fun g1 => ?_)
  · refine v_iconst (n := 17) xB_20 dX3_isFull_16 ⟨by decide, by decide⟩ rfl ?_
    refine v_ireturn1 xB_20 dX3_isFull_17 xK_20 (by decide) ?_
    first | exact o1 (by first | omega | (simp only [sA_same, sA_s, ud_s, Int.reduceEq, if_true, if_false, ite_true, ite_false, ↓reduceIte, and_true, true_and, eq_self, Int.add_zero, Int.reduceAdd]; omega) | (simp (disch := omega) only [sA_same, sA_ne, ud_eq, ud_ne, Int.add_zero, Int.reduceAdd]; omega)) | exact o2 (by first | omega | (simp only [sA_same, sA_s, ud_s, Int.reduceEq, if_true, if_false, ite_true, ite_false, ↓reduceIte, and_true, true_and, eq_self, Int.add_zero, Int.reduceAdd]; omega) | (simp (disch := omega) only [sA_same, sA_ne, ud_eq, ud_ne, Int.add_zero, Int.reduceAdd]; omega))
  · refine v_iconst (n := 13) xB_20 dX3_isFull_12 ⟨by decide, by decide⟩ rfl ?_
    refine v_goto (t := 17) xB_20 dX3_isFull_13 (by decide) rfl ?_
    refine v_ireturn1 xB_20 dX3_isFull_17 xK_20 (by decide) ?_
    first | exact o1 (by first | omega | (simp only [sA_same, sA_s, ud_s, Int.reduceEq, if_true, if_false, ite_true, ite_false, ↓reduceIte, and_true, true_and, eq_self, Int.add_zero, Int.reduceAdd]; omega) | (simp (disch := omega) only [sA_same, sA_ne, ud_eq, ud_ne, Int.add_zero, Int.reduceAdd]; omega)) | exact o2 (by first | omega | (simp only [sA_same, sA_s, ud_s, Int.reduceEq, if_true, if_false, ite_true, ite_false, ↓reduceIte, and_true, true_and, eq_self, Int.add_zero, Int.reduceAdd]; omega) | (simp (disch := omega) only [sA_same, sA_ne, ud_eq, ud_ne, Int.add_zero, Int.reduceAdd]; omega))
set_option maxHeartbeats 1000000 in
theorem k_add {d : Nat} {q a b c : Int} {m : PM} {dy : List (Nat × Nat)} {L : Nat} {Q : Option PV → PS → Prop} (hd : 2 ≤ d) (hq : notA q) (h3 : 0 ≤ m q 3 ∧ m q 3 < (notN q : Int)) (o1 : Q (some (.inl (m q 3 + 1))) (setA (setA (setA (setA m q (ud (m q) 3 (m q 3 + 1))) (q + 1) (ud (m (q + 1)) (m q 3) a)) (q + 2) (ud (m (q + 2)) (m q 3) b)) (q + 3) (ud (m (q + 3)) (m q 3) c), (none, (dy, L)))) : C d 21 [.inr (.inr q), .inl a, .inl b, .inl c] (m, (none, (dy, L))) Q := by
  refine C_go (k := 1) hd xL_21 (fun d hd => ?_)
  show V d 21 (0, ([some (.inr (.inr q)), some (.inl a), some (.inl b), some (.inl c)], ([], (m, (none, (dy, L)))))) Q
  have hqd : q = 5 ∨ q = 9 ∨ q = 13 ∨ q = 31 ∨ q = 35 ∨ q = 39 := hq
  have hnn : notN q ≤ 8 := by unfold notN; (repeat' split) <;> omega
  refine v_aload_n (n := 1) xB_21 dX3_add_0 rfl rfl ?_
  refine v_call_v (n := 4) xB_21 dX3_add_1 xO_21 iv_3_23 rfl (sh_N hq _ _ _) rfl rfl rfl ?_
  refine k_isFull (by omega) hq (fun g1 => ?_) (fun g2 => ?_)
  · (try simp (disch := omega) only [sA_same, sA_ne, sA_sA, sA_sr, sB_s, ud_eq, ud_ne, ud_ud, ud_sr, uB_s, Int.add_zero, Int.reduceAdd] at g1)
    exact absurd g1 (by omega)
  · (try simp (disch := omega) only [sA_same, sA_ne, sA_sA, sA_sr, sB_s, ud_eq, ud_ne, ud_ud, ud_sr, uB_s, Int.add_zero, Int.reduceAdd] at g2)
    refine v_if_ne_n (n := 7) xB_21 dX3_add_4 (by decide) rfl (by decide) ?_
    refine v_aload_n (n := 8) xB_21 dX3_add_7 rfl rfl ?_
    refine v_gf_s (n := 11) (kz := 0) xB_21 dX3_add_8 xO_21 fl_3_7 fg_3_0 (sh_N hq _ _ _) rfl (st_N1 hq) rfl ?_
    refine v_aload_n (n := 12) xB_21 dX3_add_11 rfl rfl ?_
    refine v_gf_i (n := 15) (kz := 3) xB_21 dX3_add_12 xO_21 fl_3_19 fg_3_3 rfl (sh_N hq _ _ _) rfl rfl ?_
    refine v_iload_n (n := 16) xB_21 dX3_add_15 rfl rfl ?_
    refine v_iastore (n := 17) (lz := (notN q : Int)) xB_21 dX3_add_16 (sh_N1 hq _ _ _) (by unfold notA at hq; omega) rfl (by first | omega | (simp only [sA_same, sA_s, ud_s, Int.reduceEq, if_true, if_false, ite_true, ite_false, ↓reduceIte, and_true, true_and, eq_self, Int.add_zero, Int.reduceAdd]; omega) | (simp (disch := omega) only [sA_same, sA_ne, ud_eq, ud_ne, Int.add_zero, Int.reduceAdd]; omega)) rfl ?_
    (try simp (disch := omega) only [sA_same, sA_ne, sA_sA, sA_sr, sB_s, ud_eq, ud_ne, ud_ud, ud_sr, uB_s, Int.add_zero, Int.reduceAdd])
    refine v_aload_n (n := 18) xB_21 dX3_add_17 rfl rfl ?_
    refine v_gf_s (n := 21) (kz := 1) xB_21 dX3_add_18 xO_21 fl_3_13 fg_3_1 (sh_N hq _ _ _) rfl (st_N2 hq) rfl ?_
    refine v_aload_n (n := 22) xB_21 dX3_add_21 rfl rfl ?_
    refine v_gf_i (n := 25) (kz := 3) xB_21 dX3_add_22 xO_21 fl_3_19 fg_3_3 rfl (sh_N hq _ _ _) rfl rfl ?_
    refine v_iload_n (n := 26) xB_21 dX3_add_25 rfl rfl ?_
    refine v_iastore (n := 27) (lz := (notN q : Int)) xB_21 dX3_add_26 (sh_N2 hq _ _ _) (by unfold notA at hq; omega) rfl (by first | omega | (simp only [sA_same, sA_s, ud_s, Int.reduceEq, if_true, if_false, ite_true, ite_false, ↓reduceIte, and_true, true_and, eq_self, Int.add_zero, Int.reduceAdd]; omega) | (simp (disch := omega) only [sA_same, sA_ne, ud_eq, ud_ne, Int.add_zero, Int.reduceAdd]; omega)) rfl ?_
    (try simp (disch := omega) only [sA_same, sA_ne, sA_sA, sA_sr, sB_s, ud_eq, ud_ne, ud_ud, ud_sr, uB_s, Int.add_zero, Int.reduceAdd])
    refine v_aload_n (n := 28) xB_21 dX3_add_27 rfl rfl ?_
    refine v_gf_s (n := 31) (kz := 2) xB_21 dX3_add_28 xO_21 fl_3_16 fg_3_2 (sh_N hq _ _ _) rfl (st_N3 hq) rfl ?_
    refine v_aload_n (n := 32) xB_21 dX3_add_31 rfl rfl ?_
    refine v_gf_i (n := 35) (kz := 3) xB_21 dX3_add_32 xO_21 fl_3_19 fg_3_3 rfl (sh_N hq _ _ _) rfl rfl ?_
    refine v_iload_n (n := 36) xB_21 dX3_add_35 rfl rfl ?_
    refine v_iastore (n := 37) (lz := (notN q : Int)) xB_21 dX3_add_36 (sh_N3 hq _ _ _) (by unfold notA at hq; omega) rfl (by first | omega | (simp only [sA_same, sA_s, ud_s, Int.reduceEq, if_true, if_false, ite_true, ite_false, ↓reduceIte, and_true, true_and, eq_self, Int.add_zero, Int.reduceAdd]; omega) | (simp (disch := omega) only [sA_same, sA_ne, ud_eq, ud_ne, Int.add_zero, Int.reduceAdd]; omega)) rfl ?_
    (try simp (disch := omega) only [sA_same, sA_ne, sA_sA, sA_sr, sB_s, ud_eq, ud_ne, ud_ud, ud_sr, uB_s, Int.add_zero, Int.reduceAdd])
    refine v_aload_n (n := 38) xB_21 dX3_add_37 rfl rfl ?_
    refine v_dup (n := 39) xB_21 dX3_add_38 rfl rfl ?_
    refine v_gf_i (n := 42) (kz := 3) xB_21 dX3_add_39 xO_21 fl_3_19 fg_3_3 rfl (sh_N hq _ _ _) rfl rfl ?_
    refine v_iconst (n := 43) xB_21 dX3_add_42 ⟨by decide, by decide⟩ rfl ?_
    refine v_iadd (n := 44) xB_21 dX3_add_43 (by first | omega | (simp only [sA_same, sA_s, ud_s, Int.reduceEq, if_true, if_false, ite_true, ite_false, ↓reduceIte, and_true, true_and, eq_self, Int.add_zero, Int.reduceAdd]; omega) | (simp (disch := omega) only [sA_same, sA_ne, ud_eq, ud_ne, Int.add_zero, Int.reduceAdd]; omega)) rfl ?_
    refine v_pf_i (n := 47) (kz := 3) xB_21 dX3_add_44 xO_21 fl_3_19 fg_3_3 (Or.inl fn_3_3) (sh_N hq _ _ _) (by unfold notA at hq; omega) rfl rfl ?_
    (try simp (disch := omega) only [sA_same, sA_ne, sA_sA, sA_sr, sB_s, ud_eq, ud_ne, ud_ud, ud_sr, uB_s, Int.add_zero, Int.reduceAdd])
    refine v_aload_n (n := 48) xB_21 dX3_add_47 rfl rfl ?_
    refine v_gf_i (n := 51) (kz := 3) xB_21 dX3_add_48 xO_21 fl_3_19 fg_3_3 rfl (sh_N hq _ _ _) rfl rfl ?_
    refine v_ireturn0 xB_21 dX3_add_51 xK_21 ?_
    (try simp (disch := omega) only [sA_same, sA_ne, sA_sA, sA_sr, sB_s, ud_eq, ud_ne, ud_ud, ud_sr, uB_s, Int.add_zero, Int.reduceAdd])
    exact o1
set_option maxHeartbeats 1000000 in
theorem k_isRow {d : Nat} {t : Int} {m : PM} {dy : List (Nat × Nat)} {L : Nat} {Q : Option PV → PS → Prop} (hd : 1 ≤ d) (ht : 0 ≤ t ∧ t < 6) (o1 : (m (69 + 2 * t) 0 ≠ -1) → Q (some (.inl 1)) (m, (none, (dy, L)))) (o2 : (¬ (m (69 + 2 * t) 0 ≠ -1)) → Q (some (.inl 0)) (m, (none, (dy, L)))) : C d 57 [.inr (.inr (69 + 2 * t))] (m, (none, (dy, L))) Q := by
  refine C_go (k := 0) hd xL_57 (fun d hd => ?_)
  show V d 57 (0, ([some (.inr (.inr (69 + 2 * t)))], ([], (m, (none, (dy, L)))))) Q
  refine v_aload_n (n := 1) xB_57 dX8_isRow_0 rfl rfl ?_
  refine v_gf_i (n := 4) (kz := 0) xB_57 dX8_isRow_1 xO_57 fl_8_9 fg_8_0 rfl (sh_E (by first | omega | (simp only [sA_same, sA_s, ud_s, Int.reduceEq, if_true, if_false, ite_true, ite_false, ↓reduceIte, and_true, true_and, eq_self, Int.add_zero, Int.reduceAdd]; omega) | (simp (disch := omega) only [sA_same, sA_ne, ud_eq, ud_ne, Int.add_zero, Int.reduceAdd]; omega)) _ _ _) rfl rfl ?_
  refine v_iconst (n := 5) xB_57 dX8_isRow_4 ⟨by decide, by decide⟩ rfl ?_
  refine v_ic_eq (t := 12) (n := 8) xB_57 dX8_isRow_5 (by decide) rfl rfl (fun g1 => ?_) (fun g1 => ?_)
  · refine v_iconst (n := 13) xB_57 dX8_isRow_12 ⟨by decide, by decide⟩ rfl ?_
    refine v_ireturn1 xB_57 dX8_isRow_13 xK_57 (by decide) ?_
    first | exact o1 (by first | omega | (simp only [sA_same, sA_s, ud_s, Int.reduceEq, if_true, if_false, ite_true, ite_false, ↓reduceIte, and_true, true_and, eq_self, Int.add_zero, Int.reduceAdd]; omega) | (simp (disch := omega) only [sA_same, sA_ne, ud_eq, ud_ne, Int.add_zero, Int.reduceAdd]; omega)) | exact o2 (by first | omega | (simp only [sA_same, sA_s, ud_s, Int.reduceEq, if_true, if_false, ite_true, ite_false, ↓reduceIte, and_true, true_and, eq_self, Int.add_zero, Int.reduceAdd]; omega) | (simp (disch := omega) only [sA_same, sA_ne, ud_eq, ud_ne, Int.add_zero, Int.reduceAdd]; omega))
  · refine v_iconst (n := 9) xB_57 dX8_isRow_8 ⟨by decide, by decide⟩ rfl ?_
    refine v_goto (t := 13) xB_57 dX8_isRow_9 (by decide) rfl ?_
    refine v_ireturn1 xB_57 dX8_isRow_13 xK_57 (by decide) ?_
    first | exact o1 (by first | omega | (simp only [sA_same, sA_s, ud_s, Int.reduceEq, if_true, if_false, ite_true, ite_false, ↓reduceIte, and_true, true_and, eq_self, Int.add_zero, Int.reduceAdd]; omega) | (simp (disch := omega) only [sA_same, sA_ne, ud_eq, ud_ne, Int.add_zero, Int.reduceAdd]; omega)) | exact o2 (by first | omega | (simp only [sA_same, sA_s, ud_s, Int.reduceEq, if_true, if_false, ite_true, ite_false, ↓reduceIte, and_true, true_and, eq_self, Int.add_zero, Int.reduceAdd]; omega) | (simp (disch := omega) only [sA_same, sA_ne, ud_eq, ud_ne, Int.add_zero, Int.reduceAdd]; omega))
set_option maxHeartbeats 1000000 in
theorem k_has {d : Nat} {t i : Int} {m : PM} {dy : List (Nat × Nat)} {L : Nat} {Q : Option PV → PS → Prop} (hd : 1 ≤ d) (ht : 0 ≤ t ∧ t < 6) (o1 : (0 ≤ i ∧ i < m (69 + 2 * t) 1) → Q (some (.inl 1)) (m, (none, (dy, L)))) (o2 : (¬ (0 ≤ i ∧ i < m (69 + 2 * t) 1)) → Q (some (.inl 0)) (m, (none, (dy, L)))) : C d 58 [.inr (.inr (69 + 2 * t)), .inl i] (m, (none, (dy, L))) Q := by
  refine C_go (k := 0) hd xL_58 (fun d hd => ?_)
  show V d 58 (0, ([some (.inr (.inr (69 + 2 * t))), some (.inl i)], ([], (m, (none, (dy, L)))))) Q
  refine v_iload_n (n := 1) xB_58 dX8_has_0 rfl rfl ?_
  refine v_if_lt (t := 16) (n := 4) xB_58 dX8_has_1 (by decide) rfl rfl (fun g1 => ?_) (fun g1 => ?_)
  · refine v_iconst (n := 17) xB_58 dX8_has_16 ⟨by decide, by decide⟩ rfl ?_
    refine v_ireturn1 xB_58 dX8_has_17 xK_58 (by decide) ?_
    first | exact o1 (by first | omega | (simp only [sA_same, sA_s, ud_s, Int.reduceEq, if_true, if_false, ite_true, ite_false, ↓reduceIte, and_true, true_and, eq_self, Int.add_zero, Int.reduceAdd]; omega) | (simp (disch := omega) only [sA_same, sA_ne, ud_eq, ud_ne, Int.add_zero, Int.reduceAdd]; omega)) | exact o2 (by first | omega | (simp only [sA_same, sA_s, ud_s, Int.reduceEq, if_true, if_false, ite_true, ite_false, ↓reduceIte, and_true, true_and, eq_self, Int.add_zero, Int.reduceAdd]; omega) | (simp (disch := omega) only [sA_same, sA_ne, ud_eq, ud_ne, Int.add_zero, Int.reduceAdd]; omega))
  · refine v_iload_n (n := 5) xB_58 dX8_has_4 rfl rfl ?_
    refine v_aload_n (n := 6) xB_58 dX8_has_5 rfl rfl ?_
    refine v_gf_i (n := 9) (kz := 1) xB_58 dX8_has_6 xO_58 fl_8_19 fg_8_1 rfl (sh_E (by first | omega | (simp only [sA_same, sA_s, ud_s, Int.reduceEq, if_true, if_false, ite_true, ite_false, ↓reduceIte, and_true, true_and, eq_self, Int.add_zero, Int.reduceAdd]; omega) | (simp (disch := omega) only [sA_same, sA_ne, ud_eq, ud_ne, Int.add_zero, Int.reduceAdd]; omega)) _ _ _) rfl rfl ?_
    refine v_ic_ge (t := 16) (n := 12) xB_58 dX8_has_9 (by decide) rfl rfl (fun g2 => ?_) (fun g2 => ?_)
    · refine v_iconst (n := 17) xB_58 dX8_has_16 ⟨by decide, by decide⟩ rfl ?_
      refine v_ireturn1 xB_58 dX8_has_17 xK_58 (by decide) ?_
      first | exact o1 (by first | omega | (simp only [sA_same, sA_s, ud_s, Int.reduceEq, if_true, if_false, ite_true, ite_false, ↓reduceIte, and_true, true_and, eq_self, Int.add_zero, Int.reduceAdd]; omega) | (simp (disch := omega) only [sA_same, sA_ne, ud_eq, ud_ne, Int.add_zero, Int.reduceAdd]; omega)) | exact o2 (by first | omega | (simp only [sA_same, sA_s, ud_s, Int.reduceEq, if_true, if_false, ite_true, ite_false, ↓reduceIte, and_true, true_and, eq_self, Int.add_zero, Int.reduceAdd]; omega) | (simp (disch := omega) only [sA_same, sA_ne, ud_eq, ud_ne, Int.add_zero, Int.reduceAdd]; omega))
    · refine v_iconst (n := 13) xB_58 dX8_has_12 ⟨by decide, by decide⟩ rfl ?_
      refine v_goto (t := 17) xB_58 dX8_has_13 (by decide) rfl ?_
      refine v_ireturn1 xB_58 dX8_has_17 xK_58 (by decide) ?_
      first | exact o1 (by first | omega | (simp only [sA_same, sA_s, ud_s, Int.reduceEq, if_true, if_false, ite_true, ite_false, ↓reduceIte, and_true, true_and, eq_self, Int.add_zero, Int.reduceAdd]; omega) | (simp (disch := omega) only [sA_same, sA_ne, ud_eq, ud_ne, Int.add_zero, Int.reduceAdd]; omega)) | exact o2 (by first | omega | (simp only [sA_same, sA_s, ud_s, Int.reduceEq, if_true, if_false, ite_true, ite_false, ↓reduceIte, and_true, true_and, eq_self, Int.add_zero, Int.reduceAdd]; omega) | (simp (disch := omega) only [sA_same, sA_ne, ud_eq, ud_ne, Int.add_zero, Int.reduceAdd]; omega))
set_option maxHeartbeats 1000000 in
theorem k_tbegin {d : Nat} {t k v : Int} {m : PM} {dy : List (Nat × Nat)} {L : Nat} {Q : Option PV → PS → Prop} (hd : 2 ≤ d) (ht : 0 ≤ t ∧ t < 6) (o1 : Q (none) (setA (setA m (69 + 2 * t) (ud (ud (m (69 + 2 * t)) 0 k) 1 v)) (70 + 2 * t) (ivl (fun _ => 0) (m (70 + 2 * t)) 0 60), (none, (dy, L)))) : C d 59 [.inr (.inr (69 + 2 * t)), .inl k, .inl v] (m, (none, (dy, L))) Q := by
  refine C_go (k := 1) hd xL_59 (fun d hd => ?_)
  show V d 59 (0, ([some (.inr (.inr (69 + 2 * t))), some (.inl k), some (.inl v)], ([], (m, (none, (dy, L)))))) Q
  refine v_aload_n (n := 1) xB_59 dX8_begin_0 rfl rfl ?_
  refine v_iload_n (n := 2) xB_59 dX8_begin_1 rfl rfl ?_
  refine v_pf_i (n := 5) (kz := 0) xB_59 dX8_begin_2 xO_59 fl_8_9 fg_8_0 (Or.inl fn_8_0) (sh_E (by first | omega | (simp only [sA_same, sA_s, ud_s, Int.reduceEq, if_true, if_false, ite_true, ite_false, ↓reduceIte, and_true, true_and, eq_self, Int.add_zero, Int.reduceAdd]; omega) | (simp (disch := omega) only [sA_same, sA_ne, ud_eq, ud_ne, Int.add_zero, Int.reduceAdd]; omega)) _ _ _) (by first | omega | (simp only [sA_same, sA_s, ud_s, Int.reduceEq, if_true, if_false, ite_true, ite_false, ↓reduceIte, and_true, true_and, eq_self, Int.add_zero, Int.reduceAdd]; omega) | (simp (disch := omega) only [sA_same, sA_ne, ud_eq, ud_ne, Int.add_zero, Int.reduceAdd]; omega)) rfl rfl ?_
  (try simp (disch := omega) only [sA_same, sA_ne, sA_sA, sA_sr, sB_s, ud_eq, ud_ne, ud_ud, ud_sr, uB_s, Int.add_zero, Int.reduceAdd])
  refine v_aload_n (n := 6) xB_59 dX8_begin_5 rfl rfl ?_
  refine v_iload_n (n := 7) xB_59 dX8_begin_6 rfl rfl ?_
  refine v_pf_i (n := 10) (kz := 1) xB_59 dX8_begin_7 xO_59 fl_8_19 fg_8_1 (Or.inl fn_8_1) (sh_E (by first | omega | (simp only [sA_same, sA_s, ud_s, Int.reduceEq, if_true, if_false, ite_true, ite_false, ↓reduceIte, and_true, true_and, eq_self, Int.add_zero, Int.reduceAdd]; omega) | (simp (disch := omega) only [sA_same, sA_ne, ud_eq, ud_ne, Int.add_zero, Int.reduceAdd]; omega)) _ _ _) (by first | omega | (simp only [sA_same, sA_s, ud_s, Int.reduceEq, if_true, if_false, ite_true, ite_false, ↓reduceIte, and_true, true_and, eq_self, Int.add_zero, Int.reduceAdd]; omega) | (simp (disch := omega) only [sA_same, sA_ne, ud_eq, ud_ne, Int.add_zero, Int.reduceAdd]; omega)) rfl rfl ?_
  (try simp (disch := omega) only [sA_same, sA_ne, sA_sA, sA_sr, sB_s, ud_eq, ud_ne, ud_ud, ud_sr, uB_s, Int.add_zero, Int.reduceAdd])
  refine v_aload_n (n := 11) xB_59 dX8_begin_10 rfl rfl ?_
  refine v_gf_s (n := 14) (kz := 2) xB_59 dX8_begin_11 xO_59 fl_8_15 fg_8_2 (sh_E (by first | omega | (simp only [sA_same, sA_s, ud_s, Int.reduceEq, if_true, if_false, ite_true, ite_false, ↓reduceIte, and_true, true_and, eq_self, Int.add_zero, Int.reduceAdd]; omega) | (simp (disch := omega) only [sA_same, sA_ne, ud_eq, ud_ne, Int.add_zero, Int.reduceAdd]; omega)) _ _ _) rfl (st_EI (by first | omega | (simp only [sA_same, sA_s, ud_s, Int.reduceEq, if_true, if_false, ite_true, ite_false, ↓reduceIte, and_true, true_and, eq_self, Int.add_zero, Int.reduceAdd]; omega) | (simp (disch := omega) only [sA_same, sA_ne, ud_eq, ud_ne, Int.add_zero, Int.reduceAdd]; omega))) rfl ?_
  refine v_lconst_0 (n := 15) xB_59 dX8_begin_14 rfl ?_
  refine v_call_s (n := 18) xB_59 dX8_begin_15 xO_59 sp_8_22 (Or.inl rfl) iv_8_22 rfl rfl rfl rfl ?_
  refine k_fill60 (by omega) (fun m => sh_EI ht _ _ _) (by omega) ?_
  (try simp (disch := omega) only [sA_same, sA_ne, sA_sA, sA_sr, sB_s, ud_eq, ud_ne, ud_ud, ud_sr, uB_s, Int.add_zero, Int.reduceAdd])
  refine v_return xB_59 dX8_begin_18 xK_59 ?_
  exact o1
def nrF (s z : Int) : Int := if s = 0 then wr8 (wr32 z) else if s = 1 then wr16 (wr32 z) else if s = 2 then wr32 z else if s = 4 then (if z = 0 then 0 else 1) else z
theorem lc_0 {x : Int} (h : lCmp x 0 = 0) : x = 0 := by unfold lCmp at h; (repeat' split at h) <;> omega
theorem lc_1 {x : Int} (h : ¬ lCmp x 0 = 0) : ¬ x = 0 := by intro e; subst e; exact h rfl
set_option maxHeartbeats 1000000 in
theorem k_asItem {d : Nat} {t z : Int} {m : PM} {dy : List (Nat × Nat)} {L : Nat} {Q : Option PV → PS → Prop} (hd : 1 ≤ d) (ht : 0 ≤ t ∧ t < 6) (o1 : Q (some (.inr (.inl (nrF (m (69 + 2 * t) 0) z)))) (m, (none, (dy, L)))) : C d 60 [.inr (.inr (69 + 2 * t)), .inr (.inl z)] (m, (none, (dy, L))) Q := by
  refine C_go (k := 0) hd xL_60 (fun d hd => ?_)
  show V d 60 (0, ([some (.inr (.inr (69 + 2 * t))), some (.inr (.inl z)), none], ([], (m, (none, (dy, L)))))) Q
  refine v_aload_n (n := 1) xB_60 dX8_asItem_0 rfl rfl ?_
  refine v_gf_i (n := 4) (kz := 0) xB_60 dX8_asItem_1 xO_60 fl_8_9 fg_8_0 rfl (sh_E (by first | omega | (simp only [sA_same, sA_s, ud_s, Int.reduceEq, if_true, if_false, ite_true, ite_false, ↓reduceIte, and_true, true_and, eq_self, Int.add_zero, Int.reduceAdd]; omega) | (simp (disch := omega) only [sA_same, sA_ne, ud_eq, ud_ne, Int.add_zero, Int.reduceAdd]; omega)) _ _ _) rfl rfl ?_
  refine v_tsw xB_60 dX8_asItem_4 rfl ?_
  refine ts_c (lo' := 1) rfl (fun g1 => ?_) (fun g1 => ?_)
  · refine jm_go (t := 40) (by decide) rfl ?_
    refine v_lload_n (n := 41) xB_60 dX8_asItem_40 rfl rfl ?_
    refine v_l2i (n := 42) xB_60 dX8_asItem_41 rfl ?_
    refine v_i2b (n := 43) xB_60 dX8_asItem_42 rfl ?_
    refine v_i2l (n := 44) xB_60 dX8_asItem_43 rfl ?_
    refine v_lreturn xB_60 dX8_asItem_44 xK_60 ?_
    unfold nrF at o1
    first | (rw [if_pos (by omega)] at o1; exact o1) | (rw [if_neg (by omega), if_pos (by omega)] at o1; exact o1) | (rw [if_neg (by omega), if_neg (by omega), if_pos (by omega)] at o1; exact o1) | (rw [if_neg (by omega), if_neg (by omega), if_neg (by omega), if_pos (by omega)] at o1; first | (rw [if_pos (lc_0 (by assumption))] at o1; exact o1) | (rw [if_neg (lc_1 (by assumption))] at o1; exact o1)) | (rw [if_neg (by omega), if_neg (by omega), if_neg (by omega), if_neg (by omega)] at o1; exact o1)
  refine ts_c (lo' := 2) rfl (fun g2 => ?_) (fun g2 => ?_)
  · refine jm_go (t := 45) (by decide) rfl ?_
    refine v_lload_n (n := 46) xB_60 dX8_asItem_45 rfl rfl ?_
    refine v_l2i (n := 47) xB_60 dX8_asItem_46 rfl ?_
    refine v_i2s (n := 48) xB_60 dX8_asItem_47 rfl ?_
    refine v_i2l (n := 49) xB_60 dX8_asItem_48 rfl ?_
    refine v_lreturn xB_60 dX8_asItem_49 xK_60 ?_
    unfold nrF at o1
    first | (rw [if_pos (by omega)] at o1; exact o1) | (rw [if_neg (by omega), if_pos (by omega)] at o1; exact o1) | (rw [if_neg (by omega), if_neg (by omega), if_pos (by omega)] at o1; exact o1) | (rw [if_neg (by omega), if_neg (by omega), if_neg (by omega), if_pos (by omega)] at o1; first | (rw [if_pos (lc_0 (by assumption))] at o1; exact o1) | (rw [if_neg (lc_1 (by assumption))] at o1; exact o1)) | (rw [if_neg (by omega), if_neg (by omega), if_neg (by omega), if_neg (by omega)] at o1; exact o1)
  refine ts_c (lo' := 3) rfl (fun g3 => ?_) (fun g3 => ?_)
  · refine jm_go (t := 50) (by decide) rfl ?_
    refine v_lload_n (n := 51) xB_60 dX8_asItem_50 rfl rfl ?_
    refine v_l2i (n := 52) xB_60 dX8_asItem_51 rfl ?_
    refine v_i2l (n := 53) xB_60 dX8_asItem_52 rfl ?_
    refine v_lreturn xB_60 dX8_asItem_53 xK_60 ?_
    unfold nrF at o1
    first | (rw [if_pos (by omega)] at o1; exact o1) | (rw [if_neg (by omega), if_pos (by omega)] at o1; exact o1) | (rw [if_neg (by omega), if_neg (by omega), if_pos (by omega)] at o1; exact o1) | (rw [if_neg (by omega), if_neg (by omega), if_neg (by omega), if_pos (by omega)] at o1; first | (rw [if_pos (lc_0 (by assumption))] at o1; exact o1) | (rw [if_neg (lc_1 (by assumption))] at o1; exact o1)) | (rw [if_neg (by omega), if_neg (by omega), if_neg (by omega), if_neg (by omega)] at o1; exact o1)
  refine ts_c (lo' := 4) rfl (fun g4 => ?_) (fun g4 => ?_)
  · refine jm_go (t := 66) (by decide) rfl ?_
    refine v_lload_n (n := 67) xB_60 dX8_asItem_66 rfl rfl ?_
    refine v_lreturn xB_60 dX8_asItem_67 xK_60 ?_
    unfold nrF at o1
    first | (rw [if_pos (by omega)] at o1; exact o1) | (rw [if_neg (by omega), if_pos (by omega)] at o1; exact o1) | (rw [if_neg (by omega), if_neg (by omega), if_pos (by omega)] at o1; exact o1) | (rw [if_neg (by omega), if_neg (by omega), if_neg (by omega), if_pos (by omega)] at o1; first | (rw [if_pos (lc_0 (by assumption))] at o1; exact o1) | (rw [if_neg (lc_1 (by assumption))] at o1; exact o1)) | (rw [if_neg (by omega), if_neg (by omega), if_neg (by omega), if_neg (by omega)] at o1; exact o1)
  refine ts_c (lo' := 5) rfl (fun g5 => ?_) (fun g5 => ?_)
  · refine jm_go (t := 54) (by decide) rfl ?_
    refine v_lload_n (n := 55) xB_60 dX8_asItem_54 rfl rfl ?_
    refine v_lconst_0 (n := 56) xB_60 dX8_asItem_55 rfl ?_
    refine v_lcmp (n := 57) xB_60 dX8_asItem_56 rfl ?_
    refine v_if_eq (t := 64) (n := 60) xB_60 dX8_asItem_57 (by decide) rfl rfl (fun g6 => ?_) (fun g6 => ?_)
    · refine v_lconst_0 (n := 65) xB_60 dX8_asItem_64 rfl ?_
      refine v_lreturn xB_60 dX8_asItem_65 xK_60 ?_
      unfold nrF at o1
      first | (rw [if_pos (by omega)] at o1; exact o1) | (rw [if_neg (by omega), if_pos (by omega)] at o1; exact o1) | (rw [if_neg (by omega), if_neg (by omega), if_pos (by omega)] at o1; exact o1) | (rw [if_neg (by omega), if_neg (by omega), if_neg (by omega), if_pos (by omega)] at o1; first | (rw [if_pos (lc_0 (by assumption))] at o1; exact o1) | (rw [if_neg (lc_1 (by assumption))] at o1; exact o1)) | (rw [if_neg (by omega), if_neg (by omega), if_neg (by omega), if_neg (by omega)] at o1; exact o1)
    · refine v_lconst_1 (n := 61) xB_60 dX8_asItem_60 rfl ?_
      refine v_goto (t := 65) xB_60 dX8_asItem_61 (by decide) rfl ?_
      refine v_lreturn xB_60 dX8_asItem_65 xK_60 ?_
      unfold nrF at o1
      first | (rw [if_pos (by omega)] at o1; exact o1) | (rw [if_neg (by omega), if_pos (by omega)] at o1; exact o1) | (rw [if_neg (by omega), if_neg (by omega), if_pos (by omega)] at o1; exact o1) | (rw [if_neg (by omega), if_neg (by omega), if_neg (by omega), if_pos (by omega)] at o1; first | (rw [if_pos (lc_0 (by assumption))] at o1; exact o1) | (rw [if_neg (lc_1 (by assumption))] at o1; exact o1)) | (rw [if_neg (by omega), if_neg (by omega), if_neg (by omega), if_neg (by omega)] at o1; exact o1)
  refine ts_n ?_
  refine jm_go (t := 66) (by decide) rfl ?_
  refine v_lload_n (n := 67) xB_60 dX8_asItem_66 rfl rfl ?_
  refine v_lreturn xB_60 dX8_asItem_67 xK_60 ?_
  unfold nrF at o1
  first | (rw [if_pos (by omega)] at o1; exact o1) | (rw [if_neg (by omega), if_pos (by omega)] at o1; exact o1) | (rw [if_neg (by omega), if_neg (by omega), if_pos (by omega)] at o1; exact o1) | (rw [if_neg (by omega), if_neg (by omega), if_neg (by omega), if_pos (by omega)] at o1; first | (rw [if_pos (lc_0 (by assumption))] at o1; exact o1) | (rw [if_neg (lc_1 (by assumption))] at o1; exact o1)) | (rw [if_neg (by omega), if_neg (by omega), if_neg (by omega), if_neg (by omega)] at o1; exact o1)
set_option maxHeartbeats 1000000 in
theorem c_narrow {d : Nat} {s z : Int} {σ : PS} {Q : Option PV → PS → Prop} (hd : 1 ≤ d)  (o1 : Q (some (.inr (.inl (nrF s z)))) σ) : C d 212 [.inr (.inr 81), .inl s, .inr (.inl z)] σ Q := by
  refine C_go (k := 0) hd xL_212 (fun d hd => ?_)
  show V d 212 (0, ([some (.inr (.inr 81)), some (.inl s), some (.inr (.inl z)), none], ([], σ))) Q
  refine v_iload_n (n := 1) xB_212 dX11_narrow_0 rfl rfl ?_
  refine v_if_ne (t := 11) (n := 4) xB_212 dX11_narrow_1 (by decide) rfl rfl (fun g1 => ?_) (fun g1 => ?_)
  · refine v_iload_n (n := 12) xB_212 dX11_narrow_11 rfl rfl ?_
    refine v_iconst (n := 13) xB_212 dX11_narrow_12 ⟨by decide, by decide⟩ rfl ?_
    refine v_ic_ne (t := 23) (n := 16) xB_212 dX11_narrow_13 (by decide) rfl rfl (fun g2 => ?_) (fun g2 => ?_)
    · refine v_iload_n (n := 24) xB_212 dX11_narrow_23 rfl rfl ?_
      refine v_iconst (n := 25) xB_212 dX11_narrow_24 ⟨by decide, by decide⟩ rfl ?_
      refine v_ic_ne (t := 34) (n := 28) xB_212 dX11_narrow_25 (by decide) rfl rfl (fun g3 => ?_) (fun g3 => ?_)
      · refine v_iload_n (n := 35) xB_212 dX11_narrow_34 rfl rfl ?_
        refine v_iconst (n := 36) xB_212 dX11_narrow_35 ⟨by decide, by decide⟩ rfl ?_
        refine v_ic_ne (t := 53) (n := 39) xB_212 dX11_narrow_36 (by decide) rfl rfl (fun g4 => ?_) (fun g4 => ?_)
        · refine v_lload_n (n := 54) xB_212 dX11_narrow_53 rfl rfl ?_
          refine v_lreturn xB_212 dX11_narrow_54 xK_212 ?_
          unfold nrF at o1
          first | (rw [if_pos (by omega)] at o1; exact o1) | (rw [if_neg (by omega), if_pos (by omega)] at o1; exact o1) | (rw [if_neg (by omega), if_neg (by omega), if_pos (by omega)] at o1; exact o1) | (rw [if_neg (by omega), if_neg (by omega), if_neg (by omega), if_pos (by omega)] at o1; first | (rw [if_pos (lc_0 (by assumption))] at o1; exact o1) | (rw [if_neg (lc_1 (by assumption))] at o1; exact o1)) | (rw [if_neg (by omega), if_neg (by omega), if_neg (by omega), if_neg (by omega)] at o1; exact o1)
        · refine v_lload_n (n := 40) xB_212 dX11_narrow_39 rfl rfl ?_
          refine v_lconst_0 (n := 41) xB_212 dX11_narrow_40 rfl ?_
          refine v_lcmp (n := 42) xB_212 dX11_narrow_41 rfl ?_
          refine v_if_eq (t := 49) (n := 45) xB_212 dX11_narrow_42 (by decide) rfl rfl (fun g5 => ?_) (fun g5 => ?_)
          · refine v_lconst_0 (n := 50) xB_212 dX11_narrow_49 rfl ?_
            refine v_goto (t := 54) xB_212 dX11_narrow_50 (by decide) rfl ?_
            refine v_lreturn xB_212 dX11_narrow_54 xK_212 ?_
            unfold nrF at o1
            first | (rw [if_pos (by omega)] at o1; exact o1) | (rw [if_neg (by omega), if_pos (by omega)] at o1; exact o1) | (rw [if_neg (by omega), if_neg (by omega), if_pos (by omega)] at o1; exact o1) | (rw [if_neg (by omega), if_neg (by omega), if_neg (by omega), if_pos (by omega)] at o1; first | (rw [if_pos (lc_0 (by assumption))] at o1; exact o1) | (rw [if_neg (lc_1 (by assumption))] at o1; exact o1)) | (rw [if_neg (by omega), if_neg (by omega), if_neg (by omega), if_neg (by omega)] at o1; exact o1)
          · refine v_lconst_1 (n := 46) xB_212 dX11_narrow_45 rfl ?_
            refine v_goto (t := 54) xB_212 dX11_narrow_46 (by decide) rfl ?_
            refine v_lreturn xB_212 dX11_narrow_54 xK_212 ?_
            unfold nrF at o1
            first | (rw [if_pos (by omega)] at o1; exact o1) | (rw [if_neg (by omega), if_pos (by omega)] at o1; exact o1) | (rw [if_neg (by omega), if_neg (by omega), if_pos (by omega)] at o1; exact o1) | (rw [if_neg (by omega), if_neg (by omega), if_neg (by omega), if_pos (by omega)] at o1; first | (rw [if_pos (lc_0 (by assumption))] at o1; exact o1) | (rw [if_neg (lc_1 (by assumption))] at o1; exact o1)) | (rw [if_neg (by omega), if_neg (by omega), if_neg (by omega), if_neg (by omega)] at o1; exact o1)
      · refine v_lload_n (n := 29) xB_212 dX11_narrow_28 rfl rfl ?_
        refine v_l2i (n := 30) xB_212 dX11_narrow_29 rfl ?_
        refine v_i2l (n := 31) xB_212 dX11_narrow_30 rfl ?_
        refine v_goto (t := 54) xB_212 dX11_narrow_31 (by decide) rfl ?_
        refine v_lreturn xB_212 dX11_narrow_54 xK_212 ?_
        unfold nrF at o1
        first | (rw [if_pos (by omega)] at o1; exact o1) | (rw [if_neg (by omega), if_pos (by omega)] at o1; exact o1) | (rw [if_neg (by omega), if_neg (by omega), if_pos (by omega)] at o1; exact o1) | (rw [if_neg (by omega), if_neg (by omega), if_neg (by omega), if_pos (by omega)] at o1; first | (rw [if_pos (lc_0 (by assumption))] at o1; exact o1) | (rw [if_neg (lc_1 (by assumption))] at o1; exact o1)) | (rw [if_neg (by omega), if_neg (by omega), if_neg (by omega), if_neg (by omega)] at o1; exact o1)
    · refine v_lload_n (n := 17) xB_212 dX11_narrow_16 rfl rfl ?_
      refine v_l2i (n := 18) xB_212 dX11_narrow_17 rfl ?_
      refine v_i2s (n := 19) xB_212 dX11_narrow_18 rfl ?_
      refine v_i2l (n := 20) xB_212 dX11_narrow_19 rfl ?_
      refine v_goto (t := 54) xB_212 dX11_narrow_20 (by decide) rfl ?_
      refine v_lreturn xB_212 dX11_narrow_54 xK_212 ?_
      unfold nrF at o1
      first | (rw [if_pos (by omega)] at o1; exact o1) | (rw [if_neg (by omega), if_pos (by omega)] at o1; exact o1) | (rw [if_neg (by omega), if_neg (by omega), if_pos (by omega)] at o1; exact o1) | (rw [if_neg (by omega), if_neg (by omega), if_neg (by omega), if_pos (by omega)] at o1; first | (rw [if_pos (lc_0 (by assumption))] at o1; exact o1) | (rw [if_neg (lc_1 (by assumption))] at o1; exact o1)) | (rw [if_neg (by omega), if_neg (by omega), if_neg (by omega), if_neg (by omega)] at o1; exact o1)
  · refine v_lload_n (n := 5) xB_212 dX11_narrow_4 rfl rfl ?_
    refine v_l2i (n := 6) xB_212 dX11_narrow_5 rfl ?_
    refine v_i2b (n := 7) xB_212 dX11_narrow_6 rfl ?_
    refine v_i2l (n := 8) xB_212 dX11_narrow_7 rfl ?_
    refine v_goto (t := 54) xB_212 dX11_narrow_8 (by decide) rfl ?_
    refine v_lreturn xB_212 dX11_narrow_54 xK_212 ?_
    unfold nrF at o1
    first | (rw [if_pos (by omega)] at o1; exact o1) | (rw [if_neg (by omega), if_pos (by omega)] at o1; exact o1) | (rw [if_neg (by omega), if_neg (by omega), if_pos (by omega)] at o1; exact o1) | (rw [if_neg (by omega), if_neg (by omega), if_neg (by omega), if_pos (by omega)] at o1; first | (rw [if_pos (lc_0 (by assumption))] at o1; exact o1) | (rw [if_neg (lc_1 (by assumption))] at o1; exact o1)) | (rw [if_neg (by omega), if_neg (by omega), if_neg (by omega), if_neg (by omega)] at o1; exact o1)
