/-! The reference: small methods. -/
set_option maxHeartbeats 1000000 in
theorem c_in {d : Nat} {v lo hi : Int} {σ : PS} {Q : Option PV → PS → Prop} (hd : 1 ≤ d)  (o1 : (lo ≤ v ∧ v ≤ hi) → Q (some (.inl 1)) σ) (o2 : (¬ (lo ≤ v ∧ v ≤ hi)) → Q (some (.inl 0)) σ) : C d 120 [.inr (.inr 81), .inl v, .inl lo, .inl hi] σ Q := by
  refine C_go (k := 0) hd xL_120 (fun d hd => ?_)
  show V d 120 (0, ([some (.inr (.inr 81)), some (.inl v), some (.inl lo), some (.inl hi)], ([], σ))) Q
  refine v_iload_n (n := 1) xB_120 dX11_in_0 rfl rfl ?_
  refine v_iload_n (n := 2) xB_120 dX11_in_1 rfl rfl ?_
  refine v_ic_lt (t := 14) (n := 5) xB_120 dX11_in_2 (by decide) rfl rfl (fun g1 => ?_) (fun g1 => ?_)
  · refine v_iconst (n := 15) xB_120 dX11_in_14 ⟨by decide, by decide⟩ rfl ?_
    refine v_ireturn1 xB_120 dX11_in_15 xK_120 (by decide) ?_
    first | exact o1 (by first | omega | (simp only [sA_same, sA_s, ud_s, Int.reduceEq, if_true, if_false, ite_true, ite_false, ↓reduceIte, and_true, true_and, eq_self]; omega)) | exact o2 (by first | omega | (simp only [sA_same, sA_s, ud_s, Int.reduceEq, if_true, if_false, ite_true, ite_false, ↓reduceIte, and_true, true_and, eq_self]; omega))
  · refine v_iload_n (n := 6) xB_120 dX11_in_5 rfl rfl ?_
    refine v_iload_n (n := 7) xB_120 dX11_in_6 rfl rfl ?_
    refine v_ic_gt (t := 14) (n := 10) xB_120 dX11_in_7 (by decide) rfl rfl (fun g2 => ?_) (fun g2 => ?_)
    · refine v_iconst (n := 15) xB_120 dX11_in_14 ⟨by decide, by decide⟩ rfl ?_
      refine v_ireturn1 xB_120 dX11_in_15 xK_120 (by decide) ?_
      first | exact o1 (by first | omega | (simp only [sA_same, sA_s, ud_s, Int.reduceEq, if_true, if_false, ite_true, ite_false, ↓reduceIte, and_true, true_and, eq_self]; omega)) | exact o2 (by first | omega | (simp only [sA_same, sA_s, ud_s, Int.reduceEq, if_true, if_false, ite_true, ite_false, ↓reduceIte, and_true, true_and, eq_self]; omega))
    · refine v_iconst (n := 11) xB_120 dX11_in_10 ⟨by decide, by decide⟩ rfl ?_
      refine v_goto (t := 15) xB_120 dX11_in_11 (by decide) rfl ?_
      refine v_ireturn1 xB_120 dX11_in_15 xK_120 (by decide) ?_
      first | exact o1 (by first | omega | (simp only [sA_same, sA_s, ud_s, Int.reduceEq, if_true, if_false, ite_true, ite_false, ↓reduceIte, and_true, true_and, eq_self]; omega)) | exact o2 (by first | omega | (simp only [sA_same, sA_s, ud_s, Int.reduceEq, if_true, if_false, ite_true, ite_false, ↓reduceIte, and_true, true_and, eq_self]; omega))
set_option maxHeartbeats 1000000 in
theorem c_isTray {d : Nat} {t : Int} {m : PM} {dy : List (Nat × Nat)} {L : Nat} {Q : Option PV → PS → Prop} (hd : 2 ≤ d) (hT : 0 ≤ m 81 0 ∧ m 81 0 ≤ 5) (o1 : (0 ≤ t ∧ t < m 81 0) → Q (some (.inl 1)) (m, (none, (dy, L)))) (o2 : (¬ (0 ≤ t ∧ t < m 81 0)) → Q (some (.inl 0)) (m, (none, (dy, L)))) : C d 121 [.inr (.inr 81), .inl t] (m, (none, (dy, L))) Q := by
  refine C_go (k := 1) hd xL_121 (fun d hd => ?_)
  show V d 121 (0, ([some (.inr (.inr 81)), some (.inl t)], ([], (m, (none, (dy, L)))))) Q
  refine v_aload_n (n := 1) xB_121 dX11_isTray_0 rfl rfl ?_
  refine v_iload_n (n := 2) xB_121 dX11_isTray_1 rfl rfl ?_
  refine v_iconst (n := 3) xB_121 dX11_isTray_2 ⟨by decide, by decide⟩ rfl ?_
  refine v_aload_n (n := 4) xB_121 dX11_isTray_3 rfl rfl ?_
  refine v_gf_i (n := 7) (kz := 0) xB_121 dX11_isTray_4 xO_121 fl_11_7 fg_11_0 rfl (sh_81 _ _ _) rfl rfl ?_
  refine v_iconst (n := 8) xB_121 dX11_isTray_7 ⟨by decide, by decide⟩ rfl ?_
  refine v_isub (n := 9) xB_121 dX11_isTray_8 (by first | omega | (simp only [sA_same, sA_s, ud_s, Int.reduceEq, if_true, if_false, ite_true, ite_false, ↓reduceIte, and_true, true_and, eq_self]; omega)) rfl ?_
  refine v_call_v (n := 12) xB_121 dX11_isTray_9 xO_121 iv_11_221 rfl (sh_81 _ _ _) rfl rfl rfl ?_
  refine c_in (by omega)  (fun g1 => ?_) (fun g2 => ?_)
  · refine v_ireturn1 xB_121 dX11_isTray_12 xK_121 (by decide) ?_
    first | exact o1 (by first | omega | (simp only [sA_same, sA_s, ud_s, Int.reduceEq, if_true, if_false, ite_true, ite_false, ↓reduceIte, and_true, true_and, eq_self]; omega)) | exact o2 (by first | omega | (simp only [sA_same, sA_s, ud_s, Int.reduceEq, if_true, if_false, ite_true, ite_false, ↓reduceIte, and_true, true_and, eq_self]; omega))
  · refine v_ireturn1 xB_121 dX11_isTray_12 xK_121 (by decide) ?_
    first | exact o1 (by first | omega | (simp only [sA_same, sA_s, ud_s, Int.reduceEq, if_true, if_false, ite_true, ite_false, ↓reduceIte, and_true, true_and, eq_self]; omega)) | exact o2 (by first | omega | (simp only [sA_same, sA_s, ud_s, Int.reduceEq, if_true, if_false, ite_true, ite_false, ↓reduceIte, and_true, true_and, eq_self]; omega))
set_option maxHeartbeats 1000000 in
theorem c_isJob {d : Nat} {t : Int} {m : PM} {dy : List (Nat × Nat)} {L : Nat} {Q : Option PV → PS → Prop} (hd : 2 ≤ d) (hJ : 0 ≤ m 81 5 ∧ m 81 5 ≤ 6) (o1 : (0 ≤ t ∧ t < m 81 5) → Q (some (.inl 1)) (m, (none, (dy, L)))) (o2 : (¬ (0 ≤ t ∧ t < m 81 5)) → Q (some (.inl 0)) (m, (none, (dy, L)))) : C d 142 [.inr (.inr 81), .inl t] (m, (none, (dy, L))) Q := by
  refine C_go (k := 1) hd xL_142 (fun d hd => ?_)
  show V d 142 (0, ([some (.inr (.inr 81)), some (.inl t)], ([], (m, (none, (dy, L)))))) Q
  refine v_aload_n (n := 1) xB_142 dX11_isJob_0 rfl rfl ?_
  refine v_iload_n (n := 2) xB_142 dX11_isJob_1 rfl rfl ?_
  refine v_iconst (n := 3) xB_142 dX11_isJob_2 ⟨by decide, by decide⟩ rfl ?_
  refine v_aload_n (n := 4) xB_142 dX11_isJob_3 rfl rfl ?_
  refine v_gf_i (n := 7) (kz := 5) xB_142 dX11_isJob_4 xO_142 fl_11_26 fg_11_5 rfl (sh_81 _ _ _) rfl rfl ?_
  refine v_iconst (n := 8) xB_142 dX11_isJob_7 ⟨by decide, by decide⟩ rfl ?_
  refine v_isub (n := 9) xB_142 dX11_isJob_8 (by first | omega | (simp only [sA_same, sA_s, ud_s, Int.reduceEq, if_true, if_false, ite_true, ite_false, ↓reduceIte, and_true, true_and, eq_self]; omega)) rfl ?_
  refine v_call_v (n := 12) xB_142 dX11_isJob_9 xO_142 iv_11_221 rfl (sh_81 _ _ _) rfl rfl rfl ?_
  refine c_in (by omega)  (fun g1 => ?_) (fun g2 => ?_)
  · refine v_ireturn1 xB_142 dX11_isJob_12 xK_142 (by decide) ?_
    first | exact o1 (by first | omega | (simp only [sA_same, sA_s, ud_s, Int.reduceEq, if_true, if_false, ite_true, ite_false, ↓reduceIte, and_true, true_and, eq_self]; omega)) | exact o2 (by first | omega | (simp only [sA_same, sA_s, ud_s, Int.reduceEq, if_true, if_false, ite_true, ite_false, ↓reduceIte, and_true, true_and, eq_self]; omega))
  · refine v_ireturn1 xB_142 dX11_isJob_12 xK_142 (by decide) ?_
    first | exact o1 (by first | omega | (simp only [sA_same, sA_s, ud_s, Int.reduceEq, if_true, if_false, ite_true, ite_false, ↓reduceIte, and_true, true_and, eq_self]; omega)) | exact o2 (by first | omega | (simp only [sA_same, sA_s, ud_s, Int.reduceEq, if_true, if_false, ite_true, ite_false, ↓reduceIte, and_true, true_and, eq_self]; omega))
set_option maxHeartbeats 1000000 in
theorem c_isTape {d : Nat} {t : Int} {m : PM} {dy : List (Nat × Nat)} {L : Nat} {Q : Option PV → PS → Prop} (hd : 2 ≤ d)  (o1 : (0 ≤ t ∧ t < 6) → Q (some (.inl 1)) (m, (none, (dy, L)))) (o2 : (¬ (0 ≤ t ∧ t < 6)) → Q (some (.inl 0)) (m, (none, (dy, L)))) : C d 210 [.inr (.inr 81), .inl t] (m, (none, (dy, L))) Q := by
  refine C_go (k := 1) hd xL_210 (fun d hd => ?_)
  show V d 210 (0, ([some (.inr (.inr 81)), some (.inl t)], ([], (m, (none, (dy, L)))))) Q
  refine v_aload_n (n := 1) xB_210 dX11_isTape_0 rfl rfl ?_
  refine v_iload_n (n := 2) xB_210 dX11_isTape_1 rfl rfl ?_
  refine v_iconst (n := 3) xB_210 dX11_isTape_2 ⟨by decide, by decide⟩ rfl ?_
  refine v_iconst (n := 4) xB_210 dX11_isTape_3 ⟨by decide, by decide⟩ rfl ?_
  refine v_call_v (n := 7) xB_210 dX11_isTape_4 xO_210 iv_11_221 rfl (sh_81 _ _ _) rfl rfl rfl ?_
  refine c_in (by omega)  (fun g1 => ?_) (fun g2 => ?_)
  · refine v_ireturn1 xB_210 dX11_isTape_7 xK_210 (by decide) ?_
    first | exact o1 (by first | omega | (simp only [sA_same, sA_s, ud_s, Int.reduceEq, if_true, if_false, ite_true, ite_false, ↓reduceIte, and_true, true_and, eq_self]; omega)) | exact o2 (by first | omega | (simp only [sA_same, sA_s, ud_s, Int.reduceEq, if_true, if_false, ite_true, ite_false, ↓reduceIte, and_true, true_and, eq_self]; omega))
  · refine v_ireturn1 xB_210 dX11_isTape_7 xK_210 (by decide) ?_
    first | exact o1 (by first | omega | (simp only [sA_same, sA_s, ud_s, Int.reduceEq, if_true, if_false, ite_true, ite_false, ↓reduceIte, and_true, true_and, eq_self]; omega)) | exact o2 (by first | omega | (simp only [sA_same, sA_s, ud_s, Int.reduceEq, if_true, if_false, ite_true, ite_false, ↓reduceIte, and_true, true_and, eq_self]; omega))
set_option maxHeartbeats 1000000 in
theorem c_isOn {d : Nat} {s k p : Int} {m : PM} {dy : List (Nat × Nat)} {L : Nat} {Q : Option PV → PS → Prop} (hd : 2 ≤ d)  (o1 : ((0 ≤ s ∧ s ≤ 11) ∧ (0 ≤ k ∧ k ≤ 1) ∧ ((0 ≤ p ∧ p ≤ 60) ∨ p = 99)) → Q (some (.inl 1)) (m, (none, (dy, L)))) (o2 : (¬ ((0 ≤ s ∧ s ≤ 11) ∧ (0 ≤ k ∧ k ≤ 1) ∧ ((0 ≤ p ∧ p ≤ 60) ∨ p = 99))) → Q (some (.inl 0)) (m, (none, (dy, L)))) : C d 180 [.inr (.inr 81), .inl s, .inl k, .inl p] (m, (none, (dy, L))) Q := by
  refine C_go (k := 1) hd xL_180 (fun d hd => ?_)
  show V d 180 (0, ([some (.inr (.inr 81)), some (.inl s), some (.inl k), some (.inl p)], ([], (m, (none, (dy, L)))))) Q
  refine v_aload_n (n := 1) xB_180 dX11_isOn_0 rfl rfl ?_
  refine v_iload_n (n := 2) xB_180 dX11_isOn_1 rfl rfl ?_
  refine v_iconst (n := 3) xB_180 dX11_isOn_2 ⟨by decide, by decide⟩ rfl ?_
  refine v_bipush (n := 5) xB_180 dX11_isOn_3 ⟨by decide, by decide⟩ rfl ?_
  refine v_call_v (n := 8) xB_180 dX11_isOn_5 xO_180 iv_11_221 rfl (sh_81 _ _ _) rfl rfl rfl ?_
  refine c_in (by omega)  (fun g1 => ?_) (fun g2 => ?_)
  · refine v_if_eq_n (n := 11) xB_180 dX11_isOn_8 (by decide) rfl (by decide) ?_
    refine v_aload_n (n := 12) xB_180 dX11_isOn_11 rfl rfl ?_
    refine v_iload_n (n := 13) xB_180 dX11_isOn_12 rfl rfl ?_
    refine v_iconst (n := 14) xB_180 dX11_isOn_13 ⟨by decide, by decide⟩ rfl ?_
    refine v_iconst (n := 15) xB_180 dX11_isOn_14 ⟨by decide, by decide⟩ rfl ?_
    refine v_call_v (n := 18) xB_180 dX11_isOn_15 xO_180 iv_11_221 rfl (sh_81 _ _ _) rfl rfl rfl ?_
    refine c_in (by omega)  (fun g3 => ?_) (fun g4 => ?_)
    · refine v_if_eq_n (n := 21) xB_180 dX11_isOn_18 (by decide) rfl (by decide) ?_
      refine v_aload_n (n := 22) xB_180 dX11_isOn_21 rfl rfl ?_
      refine v_iload_n (n := 23) xB_180 dX11_isOn_22 rfl rfl ?_
      refine v_iconst (n := 24) xB_180 dX11_isOn_23 ⟨by decide, by decide⟩ rfl ?_
      refine v_bipush (n := 26) xB_180 dX11_isOn_24 ⟨by decide, by decide⟩ rfl ?_
      refine v_call_v (n := 29) xB_180 dX11_isOn_26 xO_180 iv_11_221 rfl (sh_81 _ _ _) rfl rfl rfl ?_
      refine c_in (by omega)  (fun g5 => ?_) (fun g6 => ?_)
      · refine v_if_ne_y (t := 38) xB_180 dX11_isOn_29 (by decide) rfl (by decide) ?_
        refine v_iconst (n := 39) xB_180 dX11_isOn_38 ⟨by decide, by decide⟩ rfl ?_
        refine v_goto (t := 43) xB_180 dX11_isOn_39 (by decide) rfl ?_
        refine v_ireturn1 xB_180 dX11_isOn_43 xK_180 (by decide) ?_
        first | exact o1 (by first | omega | (simp only [sA_same, sA_s, ud_s, Int.reduceEq, if_true, if_false, ite_true, ite_false, ↓reduceIte, and_true, true_and, eq_self]; omega)) | exact o2 (by first | omega | (simp only [sA_same, sA_s, ud_s, Int.reduceEq, if_true, if_false, ite_true, ite_false, ↓reduceIte, and_true, true_and, eq_self]; omega))
      · refine v_if_ne_n (n := 32) xB_180 dX11_isOn_29 (by decide) rfl (by decide) ?_
        refine v_iload_n (n := 33) xB_180 dX11_isOn_32 rfl rfl ?_
        refine v_bipush (n := 35) xB_180 dX11_isOn_33 ⟨by decide, by decide⟩ rfl ?_
        refine v_ic_ne (t := 42) (n := 38) xB_180 dX11_isOn_35 (by decide) rfl rfl (fun g7 => ?_) (fun g7 => ?_)
        · refine v_iconst (n := 43) xB_180 dX11_isOn_42 ⟨by decide, by decide⟩ rfl ?_
          refine v_ireturn1 xB_180 dX11_isOn_43 xK_180 (by decide) ?_
          first | exact o1 (by first | omega | (simp only [sA_same, sA_s, ud_s, Int.reduceEq, if_true, if_false, ite_true, ite_false, ↓reduceIte, and_true, true_and, eq_self]; omega)) | exact o2 (by first | omega | (simp only [sA_same, sA_s, ud_s, Int.reduceEq, if_true, if_false, ite_true, ite_false, ↓reduceIte, and_true, true_and, eq_self]; omega))
        · refine v_iconst (n := 39) xB_180 dX11_isOn_38 ⟨by decide, by decide⟩ rfl ?_
          refine v_goto (t := 43) xB_180 dX11_isOn_39 (by decide) rfl ?_
          refine v_ireturn1 xB_180 dX11_isOn_43 xK_180 (by decide) ?_
          first | exact o1 (by first | omega | (simp only [sA_same, sA_s, ud_s, Int.reduceEq, if_true, if_false, ite_true, ite_false, ↓reduceIte, and_true, true_and, eq_self]; omega)) | exact o2 (by first | omega | (simp only [sA_same, sA_s, ud_s, Int.reduceEq, if_true, if_false, ite_true, ite_false, ↓reduceIte, and_true, true_and, eq_self]; omega))
    · refine v_if_eq_y (t := 42) xB_180 dX11_isOn_18 (by decide) rfl (by decide) ?_
      refine v_iconst (n := 43) xB_180 dX11_isOn_42 ⟨by decide, by decide⟩ rfl ?_
      refine v_ireturn1 xB_180 dX11_isOn_43 xK_180 (by decide) ?_
      first | exact o1 (by first | omega | (simp only [sA_same, sA_s, ud_s, Int.reduceEq, if_true, if_false, ite_true, ite_false, ↓reduceIte, and_true, true_and, eq_self]; omega)) | exact o2 (by first | omega | (simp only [sA_same, sA_s, ud_s, Int.reduceEq, if_true, if_false, ite_true, ite_false, ↓reduceIte, and_true, true_and, eq_self]; omega))
  · refine v_if_eq_y (t := 42) xB_180 dX11_isOn_8 (by decide) rfl (by decide) ?_
    refine v_iconst (n := 43) xB_180 dX11_isOn_42 ⟨by decide, by decide⟩ rfl ?_
    refine v_ireturn1 xB_180 dX11_isOn_43 xK_180 (by decide) ?_
    first | exact o1 (by first | omega | (simp only [sA_same, sA_s, ud_s, Int.reduceEq, if_true, if_false, ite_true, ite_false, ↓reduceIte, and_true, true_and, eq_self]; omega)) | exact o2 (by first | omega | (simp only [sA_same, sA_s, ud_s, Int.reduceEq, if_true, if_false, ite_true, ite_false, ↓reduceIte, and_true, true_and, eq_self]; omega))
