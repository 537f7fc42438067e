/-! The reference: small methods. -/
set_option maxHeartbeats 1000000 in
theorem c_in {d : Nat} {v lo hi : Int} {σ : PS} {Q : Option PV → PS → Prop} (hd : 1 ≤ d)  (o1 : (lo ≤ v ∧ v ≤ hi) → Q (some (.inl 1)) σ) (o2 : (¬ (lo ≤ v ∧ v ≤ hi)) → Q (some (.inl 0)) σ) : C d 120 [.inr (.inr 81), .inl v, .inl lo, .inl hi] σ Q := by
  refine C_go (k := 0) hd xL_120 (fun d hd => ?_)
  show V d 120 (0, ([some (.inr (.inr 81)), some (.inl v), some (.inl lo), some (.inl hi)], ([], σ))) Q
  refine v_iload_n (n := 1) xB_120 dX11_in_0 rfl rfl ?_
  refine v_iload_n (n := 2) xB_120 dX11_in_1 rfl rfl ?_
  refine v_ic_lt (t := 14) (n := 5) xB_120 dX11_in_2 (by decide) rfl rfl (fun g1 => ?_) (fun g1 => ?_)
  · refine v_iconst (n := 15) xB_120 dX11_in_14 ⟨by decide, by decide⟩ rfl ?_
    refine v_ireturn1 xB_120 dX11_in_15 xK_120 (by decide) ?_
    first | exact o1 (by first | omega | (simp only [sA_same, sA_s, ud_s, Int.reduceEq, if_true, if_false, ite_true, ite_false, ↓reduceIte, and_true, true_and, eq_self, Int.add_zero, Int.reduceAdd]; omega)) | exact o2 (by first | omega | (simp only [sA_same, sA_s, ud_s, Int.reduceEq, if_true, if_false, ite_true, ite_false, ↓reduceIte, and_true, true_and, eq_self, Int.add_zero, Int.reduceAdd]; omega))
  · refine v_iload_n (n := 6) xB_120 dX11_in_5 rfl rfl ?_
    refine v_iload_n (n := 7) xB_120 dX11_in_6 rfl rfl ?_
    refine v_ic_gt (t := 14) (n := 10) xB_120 dX11_in_7 (by decide) rfl rfl (fun g2 => ?_) (fun g2 => ?_)
    · refine v_iconst (n := 15) xB_120 dX11_in_14 ⟨by decide, by decide⟩ rfl ?_
      refine v_ireturn1 xB_120 dX11_in_15 xK_120 (by decide) ?_
      first | exact o1 (by first | omega | (simp only [sA_same, sA_s, ud_s, Int.reduceEq, if_true, if_false, ite_true, ite_false, ↓reduceIte, and_true, true_and, eq_self, Int.add_zero, Int.reduceAdd]; omega)) | exact o2 (by first | omega | (simp only [sA_same, sA_s, ud_s, Int.reduceEq, if_true, if_false, ite_true, ite_false, ↓reduceIte, and_true, true_and, eq_self, Int.add_zero, Int.reduceAdd]; omega))
    · refine v_iconst (n := 11) xB_120 dX11_in_10 ⟨by decide, by decide⟩ rfl ?_
      refine v_goto (t := 15) xB_120 dX11_in_11 (by decide) rfl ?_
      refine v_ireturn1 xB_120 dX11_in_15 xK_120 (by decide) ?_
      first | exact o1 (by first | omega | (simp only [sA_same, sA_s, ud_s, Int.reduceEq, if_true, if_false, ite_true, ite_false, ↓reduceIte, and_true, true_and, eq_self, Int.add_zero, Int.reduceAdd]; omega)) | exact o2 (by first | omega | (simp only [sA_same, sA_s, ud_s, Int.reduceEq, if_true, if_false, ite_true, ite_false, ↓reduceIte, and_true, true_and, eq_self, Int.add_zero, Int.reduceAdd]; omega))
set_option maxHeartbeats 1000000 in
theorem c_isTray {d : Nat} {t : Int} {m : PM} {dy : List (Nat × Nat)} {L : Nat} {Q : Option PV → PS → Prop} (hd : 2 ≤ d) (hT : 0 ≤ m 81 0 ∧ m 81 0 ≤ 5) (o1 : (0 ≤ t ∧ t < m 81 0) → Q (some (.inl 1)) (m, (none, (dy, L)))) (o2 : (¬ (0 ≤ t ∧ t < m 81 0)) → Q (some (.inl 0)) (m, (none, (dy, L)))) : C d 121 [.inr (.inr 81), .inl t] (m, (none, (dy, L))) Q := by
  refine C_go (k := 1) hd xL_121 (fun d hd => ?_)
  show V d 121 (0, ([some (.inr (.inr 81)), some (.inl t)], ([], (m, (none, (dy, L)))))) Q
  refine v_aload_n (n := 1) xB_121 dX11_isTray_0 rfl rfl ?_
  refine v_iload_n (n := 2) xB_121 dX11_isTray_1 rfl rfl ?_
  refine v_iconst (n := 3) xB_121 dX11_isTray_2 ⟨by decide, by decide⟩ rfl ?_
  refine v_aload_n (n := 4) xB_121 dX11_isTray_3 rfl rfl ?_
  refine v_gf_i (n := 7) (kz := 0) xB_121 dX11_isTray_4 xO_121 fl_11_7 fg_11_0 rfl (sh_81 _ _ _) rfl rfl ?_
  refine v_iconst (n := 8) xB_121 dX11_isTray_7 ⟨by decide, by decide⟩ rfl ?_
  refine v_isub (n := 9) xB_121 dX11_isTray_8 (by first | omega | (simp only [sA_same, sA_s, ud_s, Int.reduceEq, if_true, if_false, ite_true, ite_false, ↓reduceIte, and_true, true_and, eq_self, Int.add_zero, Int.reduceAdd]; omega)) rfl ?_
  refine v_call_v (n := 12) xB_121 dX11_isTray_9 xO_121 iv_11_221 rfl (sh_81 _ _ _) rfl rfl rfl ?_
  refine c_in (by omega)  (fun g1 => ?_) (fun g2 => ?_)
  · refine v_ireturn1 xB_121 dX11_isTray_12 xK_121 (by decide) ?_
    first | exact o1 (by first | omega | (simp only [sA_same, sA_s, ud_s, Int.reduceEq, if_true, if_false, ite_true, ite_false, ↓reduceIte, and_true, true_and, eq_self, Int.add_zero, Int.reduceAdd]; omega)) | exact o2 (by first | omega | (simp only [sA_same, sA_s, ud_s, Int.reduceEq, if_true, if_false, ite_true, ite_false, ↓reduceIte, and_true, true_and, eq_self, Int.add_zero, Int.reduceAdd]; omega))
  · refine v_ireturn1 xB_121 dX11_isTray_12 xK_121 (by decide) ?_
    first | exact o1 (by first | omega | (simp only [sA_same, sA_s, ud_s, Int.reduceEq, if_true, if_false, ite_true, ite_false, ↓reduceIte, and_true, true_and, eq_self, Int.add_zero, Int.reduceAdd]; omega)) | exact o2 (by first | omega | (simp only [sA_same, sA_s, ud_s, Int.reduceEq, if_true, if_false, ite_true, ite_false, ↓reduceIte, and_true, true_and, eq_self, Int.add_zero, Int.reduceAdd]; omega))
set_option maxHeartbeats 1000000 in
theorem c_isJob {d : Nat} {t : Int} {m : PM} {dy : List (Nat × Nat)} {L : Nat} {Q : Option PV → PS → Prop} (hd : 2 ≤ d) (hJ : 0 ≤ m 81 5 ∧ m 81 5 ≤ 6) (o1 : (0 ≤ t ∧ t < m 81 5) → Q (some (.inl 1)) (m, (none, (dy, L)))) (o2 : (¬ (0 ≤ t ∧ t < m 81 5)) → Q (some (.inl 0)) (m, (none, (dy, L)))) : C d 142 [.inr (.inr 81), .inl t] (m, (none, (dy, L))) Q := by
  refine C_go (k := 1) hd xL_142 (fun d hd => ?_)
  show V d 142 (0, ([some (.inr (.inr 81)), some (.inl t)], ([], (m, (none, (dy, L)))))) Q
  refine v_aload_n (n := 1) xB_142 dX11_isJob_0 rfl rfl ?_
  refine v_iload_n (n := 2) xB_142 dX11_isJob_1 rfl rfl ?_
  refine v_iconst (n := 3) xB_142 dX11_isJob_2 ⟨by decide, by decide⟩ rfl ?_
  refine v_aload_n (n := 4) xB_142 dX11_isJob_3 rfl rfl ?_
  refine v_gf_i (n := 7) (kz := 5) xB_142 dX11_isJob_4 xO_142 fl_11_26 fg_11_5 rfl (sh_81 _ _ _) rfl rfl ?_
  refine v_iconst (n := 8) xB_142 dX11_isJob_7 ⟨by decide, by decide⟩ rfl ?_
  refine v_isub (n := 9) xB_142 dX11_isJob_8 (by first | omega | (simp only [sA_same, sA_s, ud_s, Int.reduceEq, if_true, if_false, ite_true, ite_false, ↓reduceIte, and_true, true_and, eq_self, Int.add_zero, Int.reduceAdd]; omega)) rfl ?_
  refine v_call_v (n := 12) xB_142 dX11_isJob_9 xO_142 iv_11_221 rfl (sh_81 _ _ _) rfl rfl rfl ?_
  refine c_in (by omega)  (fun g1 => ?_) (fun g2 => ?_)
  · refine v_ireturn1 xB_142 dX11_isJob_12 xK_142 (by decide) ?_
    first | exact o1 (by first | omega | (simp only [sA_same, sA_s, ud_s, Int.reduceEq, if_true, if_false, ite_true, ite_false, ↓reduceIte, and_true, true_and, eq_self, Int.add_zero, Int.reduceAdd]; omega)) | exact o2 (by first | omega | (simp only [sA_same, sA_s, ud_s, Int.reduceEq, if_true, if_false, ite_true, ite_false, ↓reduceIte, and_true, true_and, eq_self, Int.add_zero, Int.reduceAdd]; omega))
  · refine v_ireturn1 xB_142 dX11_isJob_12 xK_142 (by decide) ?_
    first | exact o1 (by first | omega | (simp only [sA_same, sA_s, ud_s, Int.reduceEq, if_true, if_false, ite_true, ite_false, ↓reduceIte, and_true, true_and, eq_self, Int.add_zero, Int.reduceAdd]; omega)) | exact o2 (by first | omega | (simp only [sA_same, sA_s, ud_s, Int.reduceEq, if_true, if_false, ite_true, ite_false, ↓reduceIte, and_true, true_and, eq_self, Int.add_zero, Int.reduceAdd]; omega))
set_option maxHeartbeats 1000000 in
theorem c_isTape {d : Nat} {t : Int} {m : PM} {dy : List (Nat × Nat)} {L : Nat} {Q : Option PV → PS → Prop} (hd : 2 ≤ d)  (o1 : (0 ≤ t ∧ t < 6) → Q (some (.inl 1)) (m, (none, (dy, L)))) (o2 : (¬ (0 ≤ t ∧ t < 6)) → Q (some (.inl 0)) (m, (none, (dy, L)))) : C d 210 [.inr (.inr 81), .inl t] (m, (none, (dy, L))) Q := by
  refine C_go (k := 1) hd xL_210 (fun d hd => ?_)
  show V d 210 (0, ([some (.inr (.inr 81)), some (.inl t)], ([], (m, (none, (dy, L)))))) Q
  refine v_aload_n (n := 1) xB_210 dX11_isTape_0 rfl rfl ?_
  refine v_iload_n (n := 2) xB_210 dX11_isTape_1 rfl rfl ?_
  refine v_iconst (n := 3) xB_210 dX11_isTape_2 ⟨by decide, by decide⟩ rfl ?_
  refine v_iconst (n := 4) xB_210 dX11_isTape_3 ⟨by decide, by decide⟩ rfl ?_
  refine v_call_v (n := 7) xB_210 dX11_isTape_4 xO_210 iv_11_221 rfl (sh_81 _ _ _) rfl rfl rfl ?_
  refine c_in (by omega)  (fun g1 => ?_) (fun g2 => ?_)
  · refine v_ireturn1 xB_210 dX11_isTape_7 xK_210 (by decide) ?_
    first | exact o1 (by first | omega | (simp only [sA_same, sA_s, ud_s, Int.reduceEq, if_true, if_false, ite_true, ite_false, ↓reduceIte, and_true, true_and, eq_self, Int.add_zero, Int.reduceAdd]; omega)) | exact o2 (by first | omega | (simp only [sA_same, sA_s, ud_s, Int.reduceEq, if_true, if_false, ite_true, ite_false, ↓reduceIte, and_true, true_and, eq_self, Int.add_zero, Int.reduceAdd]; omega))
  · refine v_ireturn1 xB_210 dX11_isTape_7 xK_210 (by decide) ?_
    first | exact o1 (by first | omega | (simp only [sA_same, sA_s, ud_s, Int.reduceEq, if_true, if_false, ite_true, ite_false, ↓reduceIte, and_true, true_and, eq_self, Int.add_zero, Int.reduceAdd]; omega)) | exact o2 (by first | omega | (simp only [sA_same, sA_s, ud_s, Int.reduceEq, if_true, if_false, ite_true, ite_false, ↓reduceIte, and_true, true_and, eq_self, Int.add_zero, Int.reduceAdd]; omega))
set_option maxHeartbeats 1000000 in
theorem c_isOn {d : Nat} {s k p : Int} {m : PM} {dy : List (Nat × Nat)} {L : Nat} {Q : Option PV → PS → Prop} (hd : 2 ≤ d)  (o1 : ((0 ≤ s ∧ s ≤ 11) ∧ (0 ≤ k ∧ k ≤ 1) ∧ ((0 ≤ p ∧ p ≤ 60) ∨ p = 99)) → Q (some (.inl 1)) (m, (none, (dy, L)))) (o2 : (¬ ((0 ≤ s ∧ s ≤ 11) ∧ (0 ≤ k ∧ k ≤ 1) ∧ ((0 ≤ p ∧ p ≤ 60) ∨ p = 99))) → Q (some (.inl 0)) (m, (none, (dy, L)))) : C d 180 [.inr (.inr 81), .inl s, .inl k, .inl p] (m, (none, (dy, L))) Q := by
  refine C_go (k := 1) hd xL_180 (fun d hd => ?_)
  show V d 180 (0, ([some (.inr (.inr 81)), some (.inl s), some (.inl k), some (.inl p)], ([], (m, (none, (dy, L)))))) Q
  refine v_aload_n (n := 1) xB_180 dX11_isOn_0 rfl rfl ?_
  refine v_iload_n (n := 2) xB_180 dX11_isOn_1 rfl rfl ?_
  refine v_iconst (n := 3) xB_180 dX11_isOn_2 ⟨by decide, by decide⟩ rfl ?_
  refine v_bipush (n := 5) xB_180 dX11_isOn_3 ⟨by decide, by decide⟩ rfl ?_
  refine v_call_v (n := 8) xB_180 dX11_isOn_5 xO_180 iv_11_221 rfl (sh_81 _ _ _) rfl rfl rfl ?_
  refine c_in (by omega)  (fun g1 => ?_) (fun g2 => ?_)
  · refine v_if_eq_n (n := 11) xB_180 dX11_isOn_8 (by decide) rfl (by decide) ?_
    refine v_aload_n (n := 12) xB_180 dX11_isOn_11 rfl rfl ?_
    refine v_iload_n (n := 13) xB_180 dX11_isOn_12 rfl rfl ?_
    refine v_iconst (n := 14) xB_180 dX11_isOn_13 ⟨by decide, by decide⟩ rfl ?_
    refine v_iconst (n := 15) xB_180 dX11_isOn_14 ⟨by decide, by decide⟩ rfl ?_
    refine v_call_v (n := 18) xB_180 dX11_isOn_15 xO_180 iv_11_221 rfl (sh_81 _ _ _) rfl rfl rfl ?_
    refine c_in (by omega)  (fun g3 => ?_) (fun g4 => ?_)
    · refine v_if_eq_n (n := 21) xB_180 dX11_isOn_18 (by decide) rfl (by decide) ?_
      refine v_aload_n (n := 22) xB_180 dX11_isOn_21 rfl rfl ?_
      refine v_iload_n (n := 23) xB_180 dX11_isOn_22 rfl rfl ?_
      refine v_iconst (n := 24) xB_180 dX11_isOn_23 ⟨by decide, by decide⟩ rfl ?_
      refine v_bipush (n := 26) xB_180 dX11_isOn_24 ⟨by decide, by decide⟩ rfl ?_
      refine v_call_v (n := 29) xB_180 dX11_isOn_26 xO_180 iv_11_221 rfl (sh_81 _ _ _) rfl rfl rfl ?_
      refine c_in (by omega)  (fun g5 => ?_) (fun g6 => ?_)
      · refine v_if_ne_y (t := 38) xB_180 dX11_isOn_29 (by decide) rfl (by decide) ?_
        refine v_iconst (n := 39) xB_180 dX11_isOn_38 ⟨by decide, by decide⟩ rfl ?_
        refine v_goto (t := 43) xB_180 dX11_isOn_39 (by decide) rfl ?_
        refine v_ireturn1 xB_180 dX11_isOn_43 xK_180 (by decide) ?_
        first | exact o1 (by first | omega | (simp only [sA_same, sA_s, ud_s, Int.reduceEq, if_true, if_false, ite_true, ite_false, ↓reduceIte, and_true, true_and, eq_self, Int.add_zero, Int.reduceAdd]; omega)) | exact o2 (by first | omega | (simp only [sA_same, sA_s, ud_s, Int.reduceEq, if_true, if_false, ite_true, ite_false, ↓reduceIte, and_true, true_and, eq_self, Int.add_zero, Int.reduceAdd]; omega))
      · refine v_if_ne_n (n := 32) xB_180 dX11_isOn_29 (by decide) rfl (by decide) ?_
        refine v_iload_n (n := 33) xB_180 dX11_isOn_32 rfl rfl ?_
        refine v_bipush (n := 35) xB_180 dX11_isOn_33 ⟨by decide, by decide⟩ rfl ?_
        refine v_ic_ne (t := 42) (n := 38) xB_180 dX11_isOn_35 (by decide) rfl rfl (fun g7 => ?_) (fun g7 => ?_)
        · refine v_iconst (n := 43) xB_180 dX11_isOn_42 ⟨by decide, by decide⟩ rfl ?_
          refine v_ireturn1 xB_180 dX11_isOn_43 xK_180 (by decide) ?_
          first | exact o1 (by first | omega | (simp only [sA_same, sA_s, ud_s, Int.reduceEq, if_true, if_false, ite_true, ite_false, ↓reduceIte, and_true, true_and, eq_self, Int.add_zero, Int.reduceAdd]; omega)) | exact o2 (by first | omega | (simp only [sA_same, sA_s, ud_s, Int.reduceEq, if_true, if_false, ite_true, ite_false, ↓reduceIte, and_true, true_and, eq_self, Int.add_zero, Int.reduceAdd]; omega))
        · refine v_iconst (n := 39) xB_180 dX11_isOn_38 ⟨by decide, by decide⟩ rfl ?_
          refine v_goto (t := 43) xB_180 dX11_isOn_39 (by decide) rfl ?_
          refine v_ireturn1 xB_180 dX11_isOn_43 xK_180 (by decide) ?_
          first | exact o1 (by first | omega | (simp only [sA_same, sA_s, ud_s, Int.reduceEq, if_true, if_false, ite_true, ite_false, ↓reduceIte, and_true, true_and, eq_self, Int.add_zero, Int.reduceAdd]; omega)) | exact o2 (by first | omega | (simp only [sA_same, sA_s, ud_s, Int.reduceEq, if_true, if_false, ite_true, ite_false, ↓reduceIte, and_true, true_and, eq_self, Int.add_zero, Int.reduceAdd]; omega))
    · refine v_if_eq_y (t := 42) xB_180 dX11_isOn_18 (by decide) rfl (by decide) ?_
      refine v_iconst (n := 43) xB_180 dX11_isOn_42 ⟨by decide, by decide⟩ rfl ?_
      refine v_ireturn1 xB_180 dX11_isOn_43 xK_180 (by decide) ?_
      first | exact o1 (by first | omega | (simp only [sA_same, sA_s, ud_s, Int.reduceEq, if_true, if_false, ite_true, ite_false, ↓reduceIte, and_true, true_and, eq_self, Int.add_zero, Int.reduceAdd]; omega)) | exact o2 (by first | omega | (simp only [sA_same, sA_s, ud_s, Int.reduceEq, if_true, if_false, ite_true, ite_false, ↓reduceIte, and_true, true_and, eq_self, Int.add_zero, Int.reduceAdd]; omega))
  · refine v_if_eq_y (t := 42) xB_180 dX11_isOn_8 (by decide) rfl (by decide) ?_
    refine v_iconst (n := 43) xB_180 dX11_isOn_42 ⟨by decide, by decide⟩ rfl ?_
    refine v_ireturn1 xB_180 dX11_isOn_43 xK_180 (by decide) ?_
    first | exact o1 (by first | omega | (simp only [sA_same, sA_s, ud_s, Int.reduceEq, if_true, if_false, ite_true, ite_false, ↓reduceIte, and_true, true_and, eq_self, Int.add_zero, Int.reduceAdd]; omega)) | exact o2 (by first | omega | (simp only [sA_same, sA_s, ud_s, Int.reduceEq, if_true, if_false, ite_true, ite_false, ↓reduceIte, and_true, true_and, eq_self, Int.add_zero, Int.reduceAdd]; omega))
set_option maxHeartbeats 1000000 in
theorem c_next {d : Nat}  {m : PM} {dy : List (Nat × Nat)} {L : Nat} {Q : Option PV → PS → Prop} (hd : 1 ≤ d) (hA : 0 ≤ m 81 7 ∧ m 81 7 ≤ 110 ∧ m 81 6 ≤ 100) (o1 : Q (some (.inl (nxt (m 86) (m 81 6) (m 81 7)))) (m, (none, (dy, L)))) : C d 126 [.inr (.inr 81)] (m, (none, (dy, L))) Q := by
  refine C_go (k := 0) hd xL_126 (fun d hd => ?_)
  show V d 126 (0, ([some (.inr (.inr 81))], ([], (m, (none, (dy, L)))))) Q
  refine v_aload_n (n := 1) xB_126 dX11_next_0 rfl rfl ?_
  refine v_gf_i (n := 4) (kz := 7) xB_126 dX11_next_1 xO_126 fl_11_32 fg_11_7 rfl (sh_81 _ _ _) rfl rfl ?_
  refine v_aload_n (n := 5) xB_126 dX11_next_4 rfl rfl ?_
  refine v_gf_i (n := 8) (kz := 6) xB_126 dX11_next_5 xO_126 fl_11_29 fg_11_6 rfl (sh_81 _ _ _) rfl rfl ?_
  refine v_ic_ge (t := 23) (n := 11) xB_126 dX11_next_8 (by decide) rfl rfl (fun g1 => ?_) (fun g1 => ?_)
  · refine v_iconst (n := 24) xB_126 dX11_next_23 ⟨by decide, by decide⟩ rfl ?_
    refine v_ireturn0 xB_126 dX11_next_24 xK_126 ?_
    unfold nxt at o1; first | exact o1 | (rw [if_pos (by first | omega | (simp only [sA_same, sA_s, ud_s, Int.reduceEq, if_true, if_false, ite_true, ite_false, ↓reduceIte, and_true, true_and, eq_self, Int.add_zero, Int.reduceAdd]; omega))] at o1; exact o1) | (rw [if_neg (by first | omega | (simp only [sA_same, sA_s, ud_s, Int.reduceEq, if_true, if_false, ite_true, ite_false, ↓reduceIte, and_true, true_and, eq_self, Int.add_zero, Int.reduceAdd]; omega))] at o1; exact o1)
  · refine v_aload_n (n := 12) xB_126 dX11_next_11 rfl rfl ?_
    refine v_gf_s (n := 15) (kz := 9) xB_126 dX11_next_12 xO_126 fl_11_38 fg_11_9 (sh_81 _ _ _) rfl st_81_9 rfl ?_
    refine v_aload_n (n := 16) xB_126 dX11_next_15 rfl rfl ?_
    refine v_gf_i (n := 19) (kz := 7) xB_126 dX11_next_16 xO_126 fl_11_32 fg_11_7 rfl (sh_81 _ _ _) rfl rfl ?_
    refine v_iaload (n := 20) (lz := 100) xB_126 dX11_next_19 (sh_86 _ _ _) rfl (by first | omega | (simp only [sA_same, sA_s, ud_s, Int.reduceEq, if_true, if_false, ite_true, ite_false, ↓reduceIte, and_true, true_and, eq_self, Int.add_zero, Int.reduceAdd]; omega)) rfl ?_
    refine v_goto (t := 24) xB_126 dX11_next_20 (by decide) rfl ?_
    refine v_ireturn0 xB_126 dX11_next_24 xK_126 ?_
    unfold nxt at o1; first | exact o1 | (rw [if_pos (by first | omega | (simp only [sA_same, sA_s, ud_s, Int.reduceEq, if_true, if_false, ite_true, ite_false, ↓reduceIte, and_true, true_and, eq_self, Int.add_zero, Int.reduceAdd]; omega))] at o1; exact o1) | (rw [if_neg (by first | omega | (simp only [sA_same, sA_s, ud_s, Int.reduceEq, if_true, if_false, ite_true, ite_false, ↓reduceIte, and_true, true_and, eq_self, Int.add_zero, Int.reduceAdd]; omega))] at o1; exact o1)
set_option maxHeartbeats 1000000 in
theorem c_second {d : Nat}  {m : PM} {dy : List (Nat × Nat)} {L : Nat} {Q : Option PV → PS → Prop} (hd : 1 ≤ d) (hA : 0 ≤ m 81 7 ∧ m 81 7 ≤ 110 ∧ m 81 6 ≤ 100) (o1 : Q (some (.inl (nxt (m 86) (m 81 6) (m 81 7 + 1)))) (m, (none, (dy, L)))) : C d 127 [.inr (.inr 81)] (m, (none, (dy, L))) Q := by
  refine C_go (k := 0) hd xL_127 (fun d hd => ?_)
  show V d 127 (0, ([some (.inr (.inr 81))], ([], (m, (none, (dy, L)))))) Q
  refine v_aload_n (n := 1) xB_127 dX11_second_0 rfl rfl ?_
  refine v_gf_i (n := 4) (kz := 7) xB_127 dX11_second_1 xO_127 fl_11_32 fg_11_7 rfl (sh_81 _ _ _) rfl rfl ?_
  refine v_iconst (n := 5) xB_127 dX11_second_4 ⟨by decide, by decide⟩ rfl ?_
  refine v_iadd (n := 6) xB_127 dX11_second_5 (by first | omega | (simp only [sA_same, sA_s, ud_s, Int.reduceEq, if_true, if_false, ite_true, ite_false, ↓reduceIte, and_true, true_and, eq_self, Int.add_zero, Int.reduceAdd]; omega)) rfl ?_
  refine v_aload_n (n := 7) xB_127 dX11_second_6 rfl rfl ?_
  refine v_gf_i (n := 10) (kz := 6) xB_127 dX11_second_7 xO_127 fl_11_29 fg_11_6 rfl (sh_81 _ _ _) rfl rfl ?_
  refine v_ic_ge (t := 27) (n := 13) xB_127 dX11_second_10 (by decide) rfl rfl (fun g1 => ?_) (fun g1 => ?_)
  · refine v_iconst (n := 28) xB_127 dX11_second_27 ⟨by decide, by decide⟩ rfl ?_
    refine v_ireturn0 xB_127 dX11_second_28 xK_127 ?_
    unfold nxt at o1; first | exact o1 | (rw [if_pos (by first | omega | (simp only [sA_same, sA_s, ud_s, Int.reduceEq, if_true, if_false, ite_true, ite_false, ↓reduceIte, and_true, true_and, eq_self, Int.add_zero, Int.reduceAdd]; omega))] at o1; exact o1) | (rw [if_neg (by first | omega | (simp only [sA_same, sA_s, ud_s, Int.reduceEq, if_true, if_false, ite_true, ite_false, ↓reduceIte, and_true, true_and, eq_self, Int.add_zero, Int.reduceAdd]; omega))] at o1; exact o1)
  · refine v_aload_n (n := 14) xB_127 dX11_second_13 rfl rfl ?_
    refine v_gf_s (n := 17) (kz := 9) xB_127 dX11_second_14 xO_127 fl_11_38 fg_11_9 (sh_81 _ _ _) rfl st_81_9 rfl ?_
    refine v_aload_n (n := 18) xB_127 dX11_second_17 rfl rfl ?_
    refine v_gf_i (n := 21) (kz := 7) xB_127 dX11_second_18 xO_127 fl_11_32 fg_11_7 rfl (sh_81 _ _ _) rfl rfl ?_
    refine v_iconst (n := 22) xB_127 dX11_second_21 ⟨by decide, by decide⟩ rfl ?_
    refine v_iadd (n := 23) xB_127 dX11_second_22 (by first | omega | (simp only [sA_same, sA_s, ud_s, Int.reduceEq, if_true, if_false, ite_true, ite_false, ↓reduceIte, and_true, true_and, eq_self, Int.add_zero, Int.reduceAdd]; omega)) rfl ?_
    refine v_iaload (n := 24) (lz := 100) xB_127 dX11_second_23 (sh_86 _ _ _) rfl (by first | omega | (simp only [sA_same, sA_s, ud_s, Int.reduceEq, if_true, if_false, ite_true, ite_false, ↓reduceIte, and_true, true_and, eq_self, Int.add_zero, Int.reduceAdd]; omega)) rfl ?_
    refine v_goto (t := 28) xB_127 dX11_second_24 (by decide) rfl ?_
    refine v_ireturn0 xB_127 dX11_second_28 xK_127 ?_
    unfold nxt at o1; first | exact o1 | (rw [if_pos (by first | omega | (simp only [sA_same, sA_s, ud_s, Int.reduceEq, if_true, if_false, ite_true, ite_false, ↓reduceIte, and_true, true_and, eq_self, Int.add_zero, Int.reduceAdd]; omega))] at o1; exact o1) | (rw [if_neg (by first | omega | (simp only [sA_same, sA_s, ud_s, Int.reduceEq, if_true, if_false, ite_true, ite_false, ↓reduceIte, and_true, true_and, eq_self, Int.add_zero, Int.reduceAdd]; omega))] at o1; exact o1)
set_option maxHeartbeats 1000000 in
theorem c_takes {d : Nat} {c : Int} {m : PM} {dy : List (Nat × Nat)} {L : Nat} {Q : Option PV → PS → Prop} (hd : 2 ≤ d) (hA : 0 ≤ m 81 7 ∧ m 81 7 ≤ 100 ∧ m 81 6 ≤ 100) (o1 : (nxt (m 86) (m 81 6) (m 81 7) = c) → Q (some (.inl 1)) (setA m 81 (ud (m 81) 7 (m 81 7 + 1)), (none, (dy, L)))) (o2 : (¬ nxt (m 86) (m 81 6) (m 81 7) = c) → Q (some (.inl 0)) (m, (none, (dy, L)))) : C d 128 [.inr (.inr 81), .inl c] (m, (none, (dy, L))) Q := by
  refine C_go (k := 1) hd xL_128 (fun d hd => ?_)
  show V d 128 (0, ([some (.inr (.inr 81)), some (.inl c)], ([], (m, (none, (dy, L)))))) Q
  refine v_aload_n (n := 1) xB_128 dX11_takes_0 rfl rfl ?_
  refine v_call_v (n := 4) xB_128 dX11_takes_1 xO_128 iv_11_229 rfl (sh_81 _ _ _) rfl rfl rfl ?_
  refine c_next (by omega) (by first | omega | (simp only [sA_same, sA_s, ud_s, Int.reduceEq, if_true, if_false, ite_true, ite_false, ↓reduceIte, and_true, true_and, eq_self, Int.add_zero, Int.reduceAdd]; omega)) ?_
  refine v_iload_n (n := 5) xB_128 dX11_takes_4 rfl rfl ?_
  refine v_ic_eq (t := 10) (n := 8) xB_128 dX11_takes_5 (by decide) rfl rfl (fun g1 => ?_) (fun g1 => ?_)
  · refine v_aload_n (n := 11) xB_128 dX11_takes_10 rfl rfl ?_
    refine v_dup (n := 12) xB_128 dX11_takes_11 rfl rfl ?_
    refine v_gf_i (n := 15) (kz := 7) xB_128 dX11_takes_12 xO_128 fl_11_32 fg_11_7 rfl (sh_81 _ _ _) rfl rfl ?_
    refine v_iconst (n := 16) xB_128 dX11_takes_15 ⟨by decide, by decide⟩ rfl ?_
    refine v_iadd (n := 17) xB_128 dX11_takes_16 (by first | omega | (simp only [sA_same, sA_s, ud_s, Int.reduceEq, if_true, if_false, ite_true, ite_false, ↓reduceIte, and_true, true_and, eq_self, Int.add_zero, Int.reduceAdd]; omega)) rfl ?_
    refine v_pf_i (n := 20) (kz := 7) xB_128 dX11_takes_17 xO_128 fl_11_32 fg_11_7 (Or.inl fn_11_7) (sh_81 _ _ _) (by decide) rfl rfl ?_
    refine v_iconst (n := 21) xB_128 dX11_takes_20 ⟨by decide, by decide⟩ rfl ?_
    refine v_ireturn1 xB_128 dX11_takes_21 xK_128 (by decide) ?_
    first | exact o1 (by first | omega | (simp only [sA_same, sA_s, ud_s, Int.reduceEq, if_true, if_false, ite_true, ite_false, ↓reduceIte, and_true, true_and, eq_self, Int.add_zero, Int.reduceAdd]; omega)) | exact o2 (by first | omega | (simp only [sA_same, sA_s, ud_s, Int.reduceEq, if_true, if_false, ite_true, ite_false, ↓reduceIte, and_true, true_and, eq_self, Int.add_zero, Int.reduceAdd]; omega))
  · refine v_iconst (n := 9) xB_128 dX11_takes_8 ⟨by decide, by decide⟩ rfl ?_
    refine v_ireturn1 xB_128 dX11_takes_9 xK_128 (by decide) ?_
    first | exact o1 (by first | omega | (simp only [sA_same, sA_s, ud_s, Int.reduceEq, if_true, if_false, ite_true, ite_false, ↓reduceIte, and_true, true_and, eq_self, Int.add_zero, Int.reduceAdd]; omega)) | exact o2 (by first | omega | (simp only [sA_same, sA_s, ud_s, Int.reduceEq, if_true, if_false, ite_true, ite_false, ↓reduceIte, and_true, true_and, eq_self, Int.add_zero, Int.reduceAdd]; omega))
set_option maxHeartbeats 1000000 in
theorem c_isDigit {d : Nat}  {m : PM} {dy : List (Nat × Nat)} {L : Nat} {Q : Option PV → PS → Prop} (hd : 2 ≤ d) (hA : 0 ≤ m 81 7 ∧ m 81 7 ≤ 110 ∧ m 81 6 ≤ 100) (o1 : (48 ≤ nxt (m 86) (m 81 6) (m 81 7) ∧ nxt (m 86) (m 81 6) (m 81 7) ≤ 57) → Q (some (.inl 1)) (m, (none, (dy, L)))) (o2 : (¬ (48 ≤ nxt (m 86) (m 81 6) (m 81 7) ∧ nxt (m 86) (m 81 6) (m 81 7) ≤ 57)) → Q (some (.inl 0)) (m, (none, (dy, L)))) : C d 130 [.inr (.inr 81)] (m, (none, (dy, L))) Q := by
  refine C_go (k := 1) hd xL_130 (fun d hd => ?_)
  show V d 130 (0, ([some (.inr (.inr 81))], ([], (m, (none, (dy, L)))))) Q
  refine v_aload_n (n := 1) xB_130 dX11_isDigit_0 rfl rfl ?_
  refine v_aload_n (n := 2) xB_130 dX11_isDigit_1 rfl rfl ?_
  refine v_call_v (n := 5) xB_130 dX11_isDigit_2 xO_130 iv_11_229 rfl (sh_81 _ _ _) rfl rfl rfl ?_
  refine c_next (by omega) (by first | omega | (simp only [sA_same, sA_s, ud_s, Int.reduceEq, if_true, if_false, ite_true, ite_false, ↓reduceIte, and_true, true_and, eq_self, Int.add_zero, Int.reduceAdd]; omega)) ?_
  refine v_bipush (n := 7) xB_130 dX11_isDigit_5 ⟨by decide, by decide⟩ rfl ?_
  refine v_bipush (n := 9) xB_130 dX11_isDigit_7 ⟨by decide, by decide⟩ rfl ?_
  refine v_call_v (n := 12) xB_130 dX11_isDigit_9 xO_130 iv_11_221 rfl (sh_81 _ _ _) rfl rfl rfl ?_
  refine c_in (by omega)  (fun g1 => ?_) (fun g2 => ?_)
  · refine v_ireturn1 xB_130 dX11_isDigit_12 xK_130 (by decide) ?_
    first | exact o1 (by first | omega | (simp only [sA_same, sA_s, ud_s, Int.reduceEq, if_true, if_false, ite_true, ite_false, ↓reduceIte, and_true, true_and, eq_self, Int.add_zero, Int.reduceAdd]; omega)) | exact o2 (by first | omega | (simp only [sA_same, sA_s, ud_s, Int.reduceEq, if_true, if_false, ite_true, ite_false, ↓reduceIte, and_true, true_and, eq_self, Int.add_zero, Int.reduceAdd]; omega))
  · refine v_ireturn1 xB_130 dX11_isDigit_12 xK_130 (by decide) ?_
    first | exact o1 (by first | omega | (simp only [sA_same, sA_s, ud_s, Int.reduceEq, if_true, if_false, ite_true, ite_false, ↓reduceIte, and_true, true_and, eq_self, Int.add_zero, Int.reduceAdd]; omega)) | exact o2 (by first | omega | (simp only [sA_same, sA_s, ud_s, Int.reduceEq, if_true, if_false, ite_true, ite_false, ↓reduceIte, and_true, true_and, eq_self, Int.add_zero, Int.reduceAdd]; omega))
set_option maxHeartbeats 1000000 in
theorem c_place {d : Nat} {c : Int} {σ : PS} {Q : Option PV → PS → Prop} (hd : 1 ≤ d)  (o1 : Q (some (.inl (plc c))) σ) : C d 135 [.inr (.inr 81), .inl c] σ Q := by
  refine C_go (k := 0) hd xL_135 (fun d hd => ?_)
  show V d 135 (0, ([some (.inr (.inr 81)), some (.inl c)], ([], σ))) Q
  refine v_iload_n (n := 1) xB_135 dX11_place_0 rfl rfl ?_
  refine v_tsw xB_135 dX11_place_1 rfl ?_
  refine ts_c (lo' := 108) rfl (fun g1 => ?_) (fun g1 => ?_)
  · refine jm_go (t := 70) (by decide) rfl ?_
    refine v_iconst (n := 71) xB_135 dX11_place_70 ⟨by decide, by decide⟩ rfl ?_
    refine v_ireturn0 xB_135 dX11_place_71 xK_135 ?_
    unfold plc at o1; (repeat first | rw [if_pos (by omega)] at o1 | rw [if_neg (by omega)] at o1); exact o1
  refine ts_c (lo' := 109) rfl (fun g2 => ?_) (fun g2 => ?_)
  · refine jm_go (t := 76) (by decide) rfl ?_
    refine v_iconst (n := 77) xB_135 dX11_place_76 ⟨by decide, by decide⟩ rfl ?_
    refine v_ireturn0 xB_135 dX11_place_77 xK_135 ?_
    unfold plc at o1; (repeat first | rw [if_pos (by omega)] at o1 | rw [if_neg (by omega)] at o1); exact o1
  refine ts_c (lo' := 110) rfl (fun g3 => ?_) (fun g3 => ?_)
  · refine jm_go (t := 76) (by decide) rfl ?_
    refine v_iconst (n := 77) xB_135 dX11_place_76 ⟨by decide, by decide⟩ rfl ?_
    refine v_ireturn0 xB_135 dX11_place_77 xK_135 ?_
    unfold plc at o1; (repeat first | rw [if_pos (by omega)] at o1 | rw [if_neg (by omega)] at o1); exact o1
  refine ts_c (lo' := 111) rfl (fun g4 => ?_) (fun g4 => ?_)
  · refine jm_go (t := 74) (by decide) rfl ?_
    refine v_iconst (n := 75) xB_135 dX11_place_74 ⟨by decide, by decide⟩ rfl ?_
    refine v_ireturn0 xB_135 dX11_place_75 xK_135 ?_
    unfold plc at o1; (repeat first | rw [if_pos (by omega)] at o1 | rw [if_neg (by omega)] at o1); exact o1
  refine ts_c (lo' := 112) rfl (fun g5 => ?_) (fun g5 => ?_)
  · refine jm_go (t := 66) (by decide) rfl ?_
    refine v_iconst (n := 67) xB_135 dX11_place_66 ⟨by decide, by decide⟩ rfl ?_
    refine v_ireturn0 xB_135 dX11_place_67 xK_135 ?_
    unfold plc at o1; (repeat first | rw [if_pos (by omega)] at o1 | rw [if_neg (by omega)] at o1); exact o1
  refine ts_c (lo' := 113) rfl (fun g6 => ?_) (fun g6 => ?_)
  · refine jm_go (t := 64) (by decide) rfl ?_
    refine v_iconst (n := 65) xB_135 dX11_place_64 ⟨by decide, by decide⟩ rfl ?_
    refine v_ireturn0 xB_135 dX11_place_65 xK_135 ?_
    unfold plc at o1; (repeat first | rw [if_pos (by omega)] at o1 | rw [if_neg (by omega)] at o1); exact o1
  refine ts_c (lo' := 114) rfl (fun g7 => ?_) (fun g7 => ?_)
  · refine jm_go (t := 76) (by decide) rfl ?_
    refine v_iconst (n := 77) xB_135 dX11_place_76 ⟨by decide, by decide⟩ rfl ?_
    refine v_ireturn0 xB_135 dX11_place_77 xK_135 ?_
    unfold plc at o1; (repeat first | rw [if_pos (by omega)] at o1 | rw [if_neg (by omega)] at o1); exact o1
  refine ts_c (lo' := 115) rfl (fun g8 => ?_) (fun g8 => ?_)
  · refine jm_go (t := 76) (by decide) rfl ?_
    refine v_iconst (n := 77) xB_135 dX11_place_76 ⟨by decide, by decide⟩ rfl ?_
    refine v_ireturn0 xB_135 dX11_place_77 xK_135 ?_
    unfold plc at o1; (repeat first | rw [if_pos (by omega)] at o1 | rw [if_neg (by omega)] at o1); exact o1
  refine ts_c (lo' := 116) rfl (fun g9 => ?_) (fun g9 => ?_)
  · refine jm_go (t := 76) (by decide) rfl ?_
    refine v_iconst (n := 77) xB_135 dX11_place_76 ⟨by decide, by decide⟩ rfl ?_
    refine v_ireturn0 xB_135 dX11_place_77 xK_135 ?_
    unfold plc at o1; (repeat first | rw [if_pos (by omega)] at o1 | rw [if_neg (by omega)] at o1); exact o1
  refine ts_c (lo' := 117) rfl (fun g10 => ?_) (fun g10 => ?_)
  · refine jm_go (t := 68) (by decide) rfl ?_
    refine v_iconst (n := 69) xB_135 dX11_place_68 ⟨by decide, by decide⟩ rfl ?_
    refine v_ireturn0 xB_135 dX11_place_69 xK_135 ?_
    unfold plc at o1; (repeat first | rw [if_pos (by omega)] at o1 | rw [if_neg (by omega)] at o1); exact o1
  refine ts_c (lo' := 118) rfl (fun g11 => ?_) (fun g11 => ?_)
  · refine jm_go (t := 76) (by decide) rfl ?_
    refine v_iconst (n := 77) xB_135 dX11_place_76 ⟨by decide, by decide⟩ rfl ?_
    refine v_ireturn0 xB_135 dX11_place_77 xK_135 ?_
    unfold plc at o1; (repeat first | rw [if_pos (by omega)] at o1 | rw [if_neg (by omega)] at o1); exact o1
  refine ts_c (lo' := 119) rfl (fun g12 => ?_) (fun g12 => ?_)
  · refine jm_go (t := 72) (by decide) rfl ?_
    refine v_iconst (n := 73) xB_135 dX11_place_72 ⟨by decide, by decide⟩ rfl ?_
    refine v_ireturn0 xB_135 dX11_place_73 xK_135 ?_
    unfold plc at o1; (repeat first | rw [if_pos (by omega)] at o1 | rw [if_neg (by omega)] at o1); exact o1
  refine ts_n ?_
  refine jm_go (t := 76) (by decide) rfl ?_
  refine v_iconst (n := 77) xB_135 dX11_place_76 ⟨by decide, by decide⟩ rfl ?_
  refine v_ireturn0 xB_135 dX11_place_77 xK_135 ?_
  unfold plc at o1; (repeat first | rw [if_pos (by omega)] at o1 | rw [if_neg (by omega)] at o1); exact o1
set_option maxHeartbeats 1000000 in
theorem c_emits {d : Nat} {z : Int} {m : PM} {dy : List (Nat × Nat)} {L : Nat} {Q : Option PV → PS → Prop} (hd : 1 ≤ d) (hS : 0 ≤ m 81 17 ∧ m 81 17 < 600) (o1 : Q (none) (setA (setA m 81 (ud (m 81) 17 (m 81 17 + 1))) 92 (ud (m 92) (m 81 17) z), (none, (dy, L)))) : C d 132 [.inr (.inr 81), .inl z] (m, (none, (dy, L))) Q := by
  refine C_go (k := 0) hd xL_132 (fun d hd => ?_)
  show V d 132 (0, ([some (.inr (.inr 81)), some (.inl z)], ([], (m, (none, (dy, L)))))) Q
  refine v_aload_n (n := 1) xB_132 dX11_emits_0 rfl rfl ?_
  refine v_gf_s (n := 4) (kz := 15) xB_132 dX11_emits_1 xO_132 fl_11_56 fg_11_15 (sh_81 _ _ _) rfl st_81_15 rfl ?_
  refine v_aload_n (n := 5) xB_132 dX11_emits_4 rfl rfl ?_
  refine v_gf_i (n := 8) (kz := 17) xB_132 dX11_emits_5 xO_132 fl_11_62 fg_11_17 rfl (sh_81 _ _ _) rfl rfl ?_
  refine v_iload_n (n := 9) xB_132 dX11_emits_8 rfl rfl ?_
  refine v_iastore (n := 10) (lz := 600) xB_132 dX11_emits_9 (sh_92 _ _ _) (by decide) rfl (by first | omega | (simp only [sA_same, sA_s, ud_s, Int.reduceEq, if_true, if_false, ite_true, ite_false, ↓reduceIte, and_true, true_and, eq_self, Int.add_zero, Int.reduceAdd]; omega)) rfl ?_
  (try simp (disch := omega) only [sA_same, sA_ne, sA_sA, sA_sr, sB_s, ud_eq, ud_ne, ud_ud, ud_sr, uB_s, Int.add_zero, Int.reduceAdd])
  refine v_aload_n (n := 11) xB_132 dX11_emits_10 rfl rfl ?_
  refine v_dup (n := 12) xB_132 dX11_emits_11 rfl rfl ?_
  refine v_gf_i (n := 15) (kz := 17) xB_132 dX11_emits_12 xO_132 fl_11_62 fg_11_17 rfl (sh_81 _ _ _) rfl rfl ?_
  refine v_iconst (n := 16) xB_132 dX11_emits_15 ⟨by decide, by decide⟩ rfl ?_
  refine v_iadd (n := 17) xB_132 dX11_emits_16 (by first | omega | (simp only [sA_same, sA_s, ud_s, Int.reduceEq, if_true, if_false, ite_true, ite_false, ↓reduceIte, and_true, true_and, eq_self, Int.add_zero, Int.reduceAdd]; omega)) rfl ?_
  refine v_pf_i (n := 20) (kz := 17) xB_132 dX11_emits_17 xO_132 fl_11_62 fg_11_17 (Or.inl fn_11_17) (sh_81 _ _ _) (by decide) rfl rfl ?_
  (try simp (disch := omega) only [sA_same, sA_ne, sA_sA, sA_sr, sB_s, ud_eq, ud_ne, ud_ud, ud_sr, uB_s, Int.add_zero, Int.reduceAdd])
  refine v_return xB_132 dX11_emits_20 xK_132 ?_
  exact o1
set_option maxHeartbeats 1000000 in
theorem c_takesNumber {d : Nat}  {m : PM} {dy : List (Nat × Nat)} {L : Nat} {Q : Option PV → PS → Prop} (hd : 3 ≤ d) (hA : 0 ≤ m 81 7 ∧ m 81 7 ≤ 100 ∧ m 81 6 ≤ 100) (o1 : (0 ≤ (nmv (m 86) (m 81 6) (m 81 7)).1) → Q (some (.inl 1)) (setA m 81 (ud (ud (m 81) 7 (nmv (m 86) (m 81 6) (m 81 7)).2) 8 (nmv (m 86) (m 81 6) (m 81 7)).1), (none, (dy, L)))) (o2 : ((nmv (m 86) (m 81 6) (m 81 7)).1 < 0) → Q (some (.inl 0)) (m, (none, (dy, L)))) : C d 131 [.inr (.inr 81)] (m, (none, (dy, L))) Q := by
  refine C_go (k := 2) hd xL_131 (fun d hd => ?_)
  show V d 131 (0, ([some (.inr (.inr 81)), none], ([], (m, (none, (dy, L)))))) Q
  refine v_aload_n (n := 1) xB_131 dX11_takesNumber_0 rfl rfl ?_
  refine v_call_v (n := 4) xB_131 dX11_takesNumber_1 xO_131 iv_11_236 rfl (sh_81 _ _ _) rfl rfl rfl ?_
  refine c_isDigit (by omega) (by first | omega | (simp only [sA_same, sA_s, ud_s, Int.reduceEq, if_true, if_false, ite_true, ite_false, ↓reduceIte, and_true, true_and, eq_self, Int.add_zero, Int.reduceAdd]; omega)) (fun g1 => ?_) (fun g2 => ?_)
  · (try simp (disch := omega) only [sA_same, sA_ne, sA_sA, sA_sr, sB_s, ud_eq, ud_ne, ud_ud, ud_sr, uB_s, Int.add_zero, Int.reduceAdd] at g1)
    refine v_if_ne_y (t := 9) xB_131 dX11_takesNumber_4 (by decide) rfl (by decide) ?_
    refine v_aload_n (n := 10) xB_131 dX11_takesNumber_9 rfl rfl ?_
    refine v_iconst (n := 11) xB_131 dX11_takesNumber_10 ⟨by decide, by decide⟩ rfl ?_
    refine v_pf_i (n := 14) (kz := 8) xB_131 dX11_takesNumber_11 xO_131 fl_11_35 fg_11_8 (Or.inl fn_11_8) (sh_81 _ _ _) (by decide) rfl rfl ?_
    (try simp (disch := omega) only [sA_same, sA_ne, sA_sA, sA_sr, sB_s, ud_eq, ud_ne, ud_ud, ud_sr, uB_s, Int.add_zero, Int.reduceAdd])
    refine v_iconst (n := 15) xB_131 dX11_takesNumber_14 ⟨by decide, by decide⟩ rfl ?_
    refine v_istore_n1 (n := 16) xB_131 dX11_takesNumber_15 rfl rfl ?_
    refine v_iload_n (n := 17) xB_131 dX11_takesNumber_16 rfl rfl ?_
    refine v_iconst (n := 18) xB_131 dX11_takesNumber_17 ⟨by decide, by decide⟩ rfl ?_
    refine v_ic_ge_n (n := 21) xB_131 dX11_takesNumber_18 (by decide) rfl (by decide) ?_
    refine v_aload_n (n := 22) xB_131 dX11_takesNumber_21 rfl rfl ?_
    refine v_call_v (n := 25) xB_131 dX11_takesNumber_22 xO_131 iv_11_236 rfl (sh_81 _ _ _) rfl rfl rfl ?_
    refine c_isDigit (by omega) (by first | omega | (simp only [sA_same, sA_s, ud_s, Int.reduceEq, if_true, if_false, ite_true, ite_false, ↓reduceIte, and_true, true_and, eq_self, Int.add_zero, Int.reduceAdd]; omega)) (fun g3 => ?_) (fun g4 => ?_)
    · (try simp (disch := omega) only [sA_same, sA_ne, sA_sA, sA_sr, sB_s, ud_eq, ud_ne, ud_ud, ud_sr, uB_s, Int.add_zero, Int.reduceAdd] at g3)
      refine v_if_eq_n (n := 28) xB_131 dX11_takesNumber_25 (by decide) rfl (by decide) ?_
      refine v_aload_n (n := 29) xB_131 dX11_takesNumber_28 rfl rfl ?_
      refine v_bipush (n := 31) xB_131 dX11_takesNumber_29 ⟨by decide, by decide⟩ rfl ?_
      refine v_aload_n (n := 32) xB_131 dX11_takesNumber_31 rfl rfl ?_
      refine v_gf_i (n := 35) (kz := 8) xB_131 dX11_takesNumber_32 xO_131 fl_11_35 fg_11_8 rfl (sh_81 _ _ _) rfl rfl ?_
      refine v_imul (n := 36) xB_131 dX11_takesNumber_35 (by first | omega | (simp only [sA_same, sA_s, ud_s, Int.reduceEq, if_true, if_false, ite_true, ite_false, ↓reduceIte, and_true, true_and, eq_self, Int.add_zero, Int.reduceAdd]; omega)) rfl ?_
      refine v_aload_n (n := 37) xB_131 dX11_takesNumber_36 rfl rfl ?_
      refine v_call_v (n := 40) xB_131 dX11_takesNumber_37 xO_131 iv_11_229 rfl (sh_81 _ _ _) rfl rfl rfl ?_
      refine c_next (by omega) (by first | omega | (simp only [sA_same, sA_s, ud_s, Int.reduceEq, if_true, if_false, ite_true, ite_false, ↓reduceIte, and_true, true_and, eq_self, Int.add_zero, Int.reduceAdd]; omega)) ?_
      refine v_iadd (n := 41) xB_131 dX11_takesNumber_40 (by first | omega | (simp only [sA_same, sA_s, ud_s, Int.reduceEq, if_true, if_false, ite_true, ite_false, ↓reduceIte, and_true, true_and, eq_self, Int.add_zero, Int.reduceAdd]; omega)) rfl ?_
      refine v_bipush (n := 43) xB_131 dX11_takesNumber_41 ⟨by decide, by decide⟩ rfl ?_
      refine v_isub (n := 44) xB_131 dX11_takesNumber_43 (by first | omega | (simp only [sA_same, sA_s, ud_s, Int.reduceEq, if_true, if_false, ite_true, ite_false, ↓reduceIte, and_true, true_and, eq_self, Int.add_zero, Int.reduceAdd]; omega)) rfl ?_
      refine v_pf_i (n := 47) (kz := 8) xB_131 dX11_takesNumber_44 xO_131 fl_11_35 fg_11_8 (Or.inl fn_11_8) (sh_81 _ _ _) (by decide) rfl rfl ?_
      (try simp (disch := omega) only [sA_same, sA_ne, sA_sA, sA_sr, sB_s, ud_eq, ud_ne, ud_ud, ud_sr, uB_s, Int.add_zero, Int.reduceAdd])
      refine v_aload_n (n := 48) xB_131 dX11_takesNumber_47 rfl rfl ?_
      refine v_dup (n := 49) xB_131 dX11_takesNumber_48 rfl rfl ?_
      refine v_gf_i (n := 52) (kz := 7) xB_131 dX11_takesNumber_49 xO_131 fl_11_32 fg_11_7 rfl (sh_81 _ _ _) rfl rfl ?_
      refine v_iconst (n := 53) xB_131 dX11_takesNumber_52 ⟨by decide, by decide⟩ rfl ?_
      refine v_iadd (n := 54) xB_131 dX11_takesNumber_53 (by first | omega | (simp only [sA_same, sA_s, ud_s, Int.reduceEq, if_true, if_false, ite_true, ite_false, ↓reduceIte, and_true, true_and, eq_self, Int.add_zero, Int.reduceAdd]; omega)) rfl ?_
      refine v_pf_i (n := 57) (kz := 7) xB_131 dX11_takesNumber_54 xO_131 fl_11_32 fg_11_7 (Or.inl fn_11_7) (sh_81 _ _ _) (by decide) rfl rfl ?_
      (try simp (disch := omega) only [sA_same, sA_ne, sA_sA, sA_sr, sB_s, ud_eq, ud_ne, ud_ud, ud_sr, uB_s, Int.add_zero, Int.reduceAdd])
      refine v_iinc1 (n := 60) xB_131 dX11_takesNumber_57 rfl (by first | omega | (simp only [sA_same, sA_s, ud_s, Int.reduceEq, if_true, if_false, ite_true, ite_false, ↓reduceIte, and_true, true_and, eq_self, Int.add_zero, Int.reduceAdd]; omega)) rfl ?_
      refine v_goto (t := 16) xB_131 dX11_takesNumber_60 (by decide) rfl ?_
      refine v_iload_n (n := 17) xB_131 dX11_takesNumber_16 rfl rfl ?_
      refine v_iconst (n := 18) xB_131 dX11_takesNumber_17 ⟨by decide, by decide⟩ rfl ?_
      refine v_ic_ge_n (n := 21) xB_131 dX11_takesNumber_18 (by decide) rfl (by decide) ?_
      refine v_aload_n (n := 22) xB_131 dX11_takesNumber_21 rfl rfl ?_
      refine v_call_v (n := 25) xB_131 dX11_takesNumber_22 xO_131 iv_11_236 rfl (sh_81 _ _ _) rfl rfl rfl ?_
      refine c_isDigit (by omega) (by first | omega | (simp only [sA_same, sA_s, ud_s, Int.reduceEq, if_true, if_false, ite_true, ite_false, ↓reduceIte, and_true, true_and, eq_self, Int.add_zero, Int.reduceAdd]; omega)) (fun g5 => ?_) (fun g6 => ?_)
      · (try simp (disch := omega) only [sA_same, sA_ne, sA_sA, sA_sr, sB_s, ud_eq, ud_ne, ud_ud, ud_sr, uB_s, Int.add_zero, Int.reduceAdd] at g5)
        refine v_if_eq_n (n := 28) xB_131 dX11_takesNumber_25 (by decide) rfl (by decide) ?_
        refine v_aload_n (n := 29) xB_131 dX11_takesNumber_28 rfl rfl ?_
        refine v_bipush (n := 31) xB_131 dX11_takesNumber_29 ⟨by decide, by decide⟩ rfl ?_
        refine v_aload_n (n := 32) xB_131 dX11_takesNumber_31 rfl rfl ?_
        refine v_gf_i (n := 35) (kz := 8) xB_131 dX11_takesNumber_32 xO_131 fl_11_35 fg_11_8 rfl (sh_81 _ _ _) rfl rfl ?_
        refine v_imul (n := 36) xB_131 dX11_takesNumber_35 (by first | omega | (simp only [sA_same, sA_s, ud_s, Int.reduceEq, if_true, if_false, ite_true, ite_false, ↓reduceIte, and_true, true_and, eq_self, Int.add_zero, Int.reduceAdd]; omega)) rfl ?_
        refine v_aload_n (n := 37) xB_131 dX11_takesNumber_36 rfl rfl ?_
        refine v_call_v (n := 40) xB_131 dX11_takesNumber_37 xO_131 iv_11_229 rfl (sh_81 _ _ _) rfl rfl rfl ?_
        refine c_next (by omega) (by first | omega | (simp only [sA_same, sA_s, ud_s, Int.reduceEq, if_true, if_false, ite_true, ite_false, ↓reduceIte, and_true, true_and, eq_self, Int.add_zero, Int.reduceAdd]; omega)) ?_
        refine v_iadd (n := 41) xB_131 dX11_takesNumber_40 (by first | omega | (simp only [sA_same, sA_s, ud_s, Int.reduceEq, if_true, if_false, ite_true, ite_false, ↓reduceIte, and_true, true_and, eq_self, Int.add_zero, Int.reduceAdd]; omega)) rfl ?_
        refine v_bipush (n := 43) xB_131 dX11_takesNumber_41 ⟨by decide, by decide⟩ rfl ?_
        refine v_isub (n := 44) xB_131 dX11_takesNumber_43 (by first | omega | (simp only [sA_same, sA_s, ud_s, Int.reduceEq, if_true, if_false, ite_true, ite_false, ↓reduceIte, and_true, true_and, eq_self, Int.add_zero, Int.reduceAdd]; omega)) rfl ?_
        refine v_pf_i (n := 47) (kz := 8) xB_131 dX11_takesNumber_44 xO_131 fl_11_35 fg_11_8 (Or.inl fn_11_8) (sh_81 _ _ _) (by decide) rfl rfl ?_
        (try simp (disch := omega) only [sA_same, sA_ne, sA_sA, sA_sr, sB_s, ud_eq, ud_ne, ud_ud, ud_sr, uB_s, Int.add_zero, Int.reduceAdd])
        refine v_aload_n (n := 48) xB_131 dX11_takesNumber_47 rfl rfl ?_
        refine v_dup (n := 49) xB_131 dX11_takesNumber_48 rfl rfl ?_
        refine v_gf_i (n := 52) (kz := 7) xB_131 dX11_takesNumber_49 xO_131 fl_11_32 fg_11_7 rfl (sh_81 _ _ _) rfl rfl ?_
        refine v_iconst (n := 53) xB_131 dX11_takesNumber_52 ⟨by decide, by decide⟩ rfl ?_
        refine v_iadd (n := 54) xB_131 dX11_takesNumber_53 (by first | omega | (simp only [sA_same, sA_s, ud_s, Int.reduceEq, if_true, if_false, ite_true, ite_false, ↓reduceIte, and_true, true_and, eq_self, Int.add_zero, Int.reduceAdd]; omega)) rfl ?_
        refine v_pf_i (n := 57) (kz := 7) xB_131 dX11_takesNumber_54 xO_131 fl_11_32 fg_11_7 (Or.inl fn_11_7) (sh_81 _ _ _) (by decide) rfl rfl ?_
        (try simp (disch := omega) only [sA_same, sA_ne, sA_sA, sA_sr, sB_s, ud_eq, ud_ne, ud_ud, ud_sr, uB_s, Int.add_zero, Int.reduceAdd])
        refine v_iinc1 (n := 60) xB_131 dX11_takesNumber_57 rfl (by first | omega | (simp only [sA_same, sA_s, ud_s, Int.reduceEq, if_true, if_false, ite_true, ite_false, ↓reduceIte, and_true, true_and, eq_self, Int.add_zero, Int.reduceAdd]; omega)) rfl ?_
        refine v_goto (t := 16) xB_131 dX11_takesNumber_60 (by decide) rfl ?_
        refine v_iload_n (n := 17) xB_131 dX11_takesNumber_16 rfl rfl ?_
        refine v_iconst (n := 18) xB_131 dX11_takesNumber_17 ⟨by decide, by decide⟩ rfl ?_
        refine v_ic_ge_y (t := 63) xB_131 dX11_takesNumber_18 (by decide) rfl (by decide) ?_
        refine v_iconst (n := 64) xB_131 dX11_takesNumber_63 ⟨by decide, by decide⟩ rfl ?_
        refine v_ireturn1 xB_131 dX11_takesNumber_64 xK_131 (by decide) ?_
        first | (exfalso; omega) | (rw [nmv0 _ _ _ (by omega)] at o2; exact o2 (by show (-1 : Int) < 0; decide)) | (simp only [Int.mul_zero, Int.zero_add]; rw [nmv2 _ _ _ (by omega) (by omega)] at o1; exact o1 (by dsimp only; omega)) | (simp only [Int.mul_zero, Int.zero_add]; rw [nmv1 _ _ _ (by omega) (by omega)] at o1; exact o1 (by dsimp only; omega))
      · (try simp (disch := omega) only [sA_same, sA_ne, sA_sA, sA_sr, sB_s, ud_eq, ud_ne, ud_ud, ud_sr, uB_s, Int.add_zero, Int.reduceAdd] at g6)
        refine v_if_eq_y (t := 63) xB_131 dX11_takesNumber_25 (by decide) rfl (by decide) ?_
        refine v_iconst (n := 64) xB_131 dX11_takesNumber_63 ⟨by decide, by decide⟩ rfl ?_
        refine v_ireturn1 xB_131 dX11_takesNumber_64 xK_131 (by decide) ?_
        first | (exfalso; omega) | (rw [nmv0 _ _ _ (by omega)] at o2; exact o2 (by show (-1 : Int) < 0; decide)) | (simp only [Int.mul_zero, Int.zero_add]; rw [nmv2 _ _ _ (by omega) (by omega)] at o1; exact o1 (by dsimp only; omega)) | (simp only [Int.mul_zero, Int.zero_add]; rw [nmv1 _ _ _ (by omega) (by omega)] at o1; exact o1 (by dsimp only; omega))
    · (try simp (disch := omega) only [sA_same, sA_ne, sA_sA, sA_sr, sB_s, ud_eq, ud_ne, ud_ud, ud_sr, uB_s, Int.add_zero, Int.reduceAdd] at g4)
      refine v_if_eq_y (t := 63) xB_131 dX11_takesNumber_25 (by decide) rfl (by decide) ?_
      refine v_iconst (n := 64) xB_131 dX11_takesNumber_63 ⟨by decide, by decide⟩ rfl ?_
      refine v_ireturn1 xB_131 dX11_takesNumber_64 xK_131 (by decide) ?_
      first | (exfalso; omega) | (rw [nmv0 _ _ _ (by omega)] at o2; exact o2 (by show (-1 : Int) < 0; decide)) | (simp only [Int.mul_zero, Int.zero_add]; rw [nmv2 _ _ _ (by omega) (by omega)] at o1; exact o1 (by dsimp only; omega)) | (simp only [Int.mul_zero, Int.zero_add]; rw [nmv1 _ _ _ (by omega) (by omega)] at o1; exact o1 (by dsimp only; omega))
  · (try simp (disch := omega) only [sA_same, sA_ne, sA_sA, sA_sr, sB_s, ud_eq, ud_ne, ud_ud, ud_sr, uB_s, Int.add_zero, Int.reduceAdd] at g2)
    refine v_if_ne_n (n := 7) xB_131 dX11_takesNumber_4 (by decide) rfl (by decide) ?_
    refine v_iconst (n := 8) xB_131 dX11_takesNumber_7 ⟨by decide, by decide⟩ rfl ?_
    refine v_ireturn1 xB_131 dX11_takesNumber_8 xK_131 (by decide) ?_
    first | (exfalso; omega) | (rw [nmv0 _ _ _ (by omega)] at o2; exact o2 (by show (-1 : Int) < 0; decide)) | (simp only [Int.mul_zero, Int.zero_add]; rw [nmv2 _ _ _ (by omega) (by omega)] at o1; exact o1 (by dsimp only; omega)) | (simp only [Int.mul_zero, Int.zero_add]; rw [nmv1 _ _ _ (by omega) (by omega)] at o1; exact o1 (by dsimp only; omega))
set_option maxHeartbeats 1000000 in
theorem c_factOf {d : Nat} {x p t n : Int} {m : PM} {dy : List (Nat × Nat)} {L : Nat} {Q : Option PV → PS → Prop} (hd : 1 ≤ d) (hp : 0 ≤ p) (ht : 0 ≤ t ∧ t < 5) (o1 : Q (some (.inl (vl x p (m 82 t) (m 83 t) n))) (m, (none, (dy, L)))) : C d 147 [.inr (.inr 81), .inl x, .inl p, .inl t, .inl n] (m, (none, (dy, L))) Q := by
  refine C_go (k := 0) hd xL_147 (fun d hd => ?_)
  show V d 147 (0, ([some (.inr (.inr 81)), some (.inl x), some (.inl p), some (.inl t), some (.inl n)], ([], (m, (none, (dy, L)))))) Q
  refine v_iload_n (n := 1) xB_147 dX11_factOf_0 rfl rfl ?_
  refine v_tsw xB_147 dX11_factOf_1 rfl ?_
  refine ts_c (lo' := 1) rfl (fun g1 => ?_) (fun g1 => ?_)
  · refine jm_go (t := 36) (by decide) rfl ?_
    refine v_iload_n (n := 37) xB_147 dX11_factOf_36 rfl rfl ?_
    refine v_ireturn0 xB_147 dX11_factOf_37 xK_147 ?_
    unfold vl at o1; (repeat first | rw [if_pos (by omega)] at o1 | rw [if_neg (by omega)] at o1); exact o1
  refine ts_c (lo' := 2) rfl (fun g2 => ?_) (fun g2 => ?_)
  · refine jm_go (t := 38) (by decide) rfl ?_
    refine v_iload_n (n := 39) xB_147 dX11_factOf_38 rfl rfl ?_
    refine v_iconst (n := 40) xB_147 dX11_factOf_39 ⟨by decide, by decide⟩ rfl ?_
    refine v_irem (n := 41) xB_147 dX11_factOf_40 (by first | omega | (simp only [sA_same, sA_s, ud_s, Int.reduceEq, if_true, if_false, ite_true, ite_false, ↓reduceIte, and_true, true_and, eq_self, Int.add_zero, Int.reduceAdd]; omega)) rfl ?_
    refine v_ireturn0 xB_147 dX11_factOf_41 xK_147 ?_
    unfold vl at o1; (repeat first | rw [if_pos (by omega)] at o1 | rw [if_neg (by omega)] at o1); exact o1
  refine ts_c (lo' := 3) rfl (fun g3 => ?_) (fun g3 => ?_)
  · refine jm_go (t := 42) (by decide) rfl ?_
    refine v_iload_n (n := 43) xB_147 dX11_factOf_42 rfl rfl ?_
    refine v_bipush (n := 45) xB_147 dX11_factOf_43 ⟨by decide, by decide⟩ rfl ?_
    refine v_irem (n := 46) xB_147 dX11_factOf_45 (by first | omega | (simp only [sA_same, sA_s, ud_s, Int.reduceEq, if_true, if_false, ite_true, ite_false, ↓reduceIte, and_true, true_and, eq_self, Int.add_zero, Int.reduceAdd]; omega)) rfl ?_
    refine v_ireturn0 xB_147 dX11_factOf_46 xK_147 ?_
    unfold vl at o1; (repeat first | rw [if_pos (by omega)] at o1 | rw [if_neg (by omega)] at o1); exact o1
  refine ts_c (lo' := 4) rfl (fun g4 => ?_) (fun g4 => ?_)
  · refine jm_go (t := 47) (by decide) rfl ?_
    refine v_aload_n (n := 48) xB_147 dX11_factOf_47 rfl rfl ?_
    refine v_gf_s (n := 51) (kz := 1) xB_147 dX11_factOf_48 xO_147 fl_11_13 fg_11_1 (sh_81 _ _ _) rfl st_81_1 rfl ?_
    refine v_iload_n (n := 52) xB_147 dX11_factOf_51 rfl rfl ?_
    refine v_iaload (n := 53) (lz := 5) xB_147 dX11_factOf_52 (sh_82 _ _ _) rfl (by first | omega | (simp only [sA_same, sA_s, ud_s, Int.reduceEq, if_true, if_false, ite_true, ite_false, ↓reduceIte, and_true, true_and, eq_self, Int.add_zero, Int.reduceAdd]; omega)) rfl ?_
    refine v_ireturn0 xB_147 dX11_factOf_53 xK_147 ?_
    unfold vl at o1; (repeat first | rw [if_pos (by omega)] at o1 | rw [if_neg (by omega)] at o1); exact o1
  refine ts_c (lo' := 5) rfl (fun g5 => ?_) (fun g5 => ?_)
  · refine jm_go (t := 54) (by decide) rfl ?_
    refine v_aload_n (n := 55) xB_147 dX11_factOf_54 rfl rfl ?_
    refine v_gf_s (n := 58) (kz := 2) xB_147 dX11_factOf_55 xO_147 fl_11_17 fg_11_2 (sh_81 _ _ _) rfl st_81_2 rfl ?_
    refine v_iload_n (n := 59) xB_147 dX11_factOf_58 rfl rfl ?_
    refine v_iaload (n := 60) (lz := 5) xB_147 dX11_factOf_59 (sh_83 _ _ _) rfl (by first | omega | (simp only [sA_same, sA_s, ud_s, Int.reduceEq, if_true, if_false, ite_true, ite_false, ↓reduceIte, and_true, true_and, eq_self, Int.add_zero, Int.reduceAdd]; omega)) rfl ?_
    refine v_ireturn0 xB_147 dX11_factOf_60 xK_147 ?_
    unfold vl at o1; (repeat first | rw [if_pos (by omega)] at o1 | rw [if_neg (by omega)] at o1); exact o1
  refine ts_n ?_
  refine jm_go (t := 61) (by decide) rfl ?_
  refine v_iload (n := 63) xB_147 dX11_factOf_61 rfl rfl ?_
  refine v_ireturn0 xB_147 dX11_factOf_63 xK_147 ?_
  unfold vl at o1; (repeat first | rw [if_pos (by omega)] at o1 | rw [if_neg (by omega)] at o1); exact o1
set_option maxHeartbeats 1000000 in
theorem c_over {d : Nat} {s : Int} {m : PM} {dy : List (Nat × Nat)} {L : Nat} {Q : Option PV → PS → Prop} (hd : 1 ≤ d) (hs : 0 ≤ s ∧ s < 12) (hb : bl (m 99)) (o1 : Q (none) (setA (setA m 96 (ud (ud (m 96) (2 * s) (m 96 (2 * s + 1))) (2 * s + 1) (m 96 (2 * s)))) 99 (ud (ud (m 99) (2 * s) (m 99 (2 * s + 1))) (2 * s + 1) (m 99 (2 * s))), (none, (dy, L)))) : C d 150 [.inr (.inr 81), .inl s] (m, (none, (dy, L))) Q := by
  refine C_go (k := 0) hd xL_150 (fun d hd => ?_)
  show V d 150 (0, ([some (.inr (.inr 81)), some (.inl s), none, none], ([], (m, (none, (dy, L)))))) Q
  have q1 := hb (2 * s)
  have q2 := hb (2 * s + 1)
  refine v_aload_n (n := 1) xB_150 dX11_over_0 rfl rfl ?_
  refine v_gf_s (n := 4) (kz := 23) xB_150 dX11_over_1 xO_150 fl_11_81 fg_11_23 (sh_81 _ _ _) rfl st_81_23 rfl ?_
  refine v_iconst (n := 5) xB_150 dX11_over_4 ⟨by decide, by decide⟩ rfl ?_
  refine v_iload_n (n := 6) xB_150 dX11_over_5 rfl rfl ?_
  refine v_imul (n := 7) xB_150 dX11_over_6 (by first | omega | (simp only [sA_same, sA_s, ud_s, Int.reduceEq, if_true, if_false, ite_true, ite_false, ↓reduceIte, and_true, true_and, eq_self, Int.add_zero, Int.reduceAdd]; omega)) rfl ?_
  refine v_iaload (n := 8) (lz := 24) xB_150 dX11_over_7 (sh_96 _ _ _) rfl (by first | omega | (simp only [sA_same, sA_s, ud_s, Int.reduceEq, if_true, if_false, ite_true, ite_false, ↓reduceIte, and_true, true_and, eq_self, Int.add_zero, Int.reduceAdd]; omega)) rfl ?_
  refine v_istore_n2 (n := 9) xB_150 dX11_over_8 rfl rfl ?_
  refine v_aload_n (n := 10) xB_150 dX11_over_9 rfl rfl ?_
  refine v_gf_s (n := 13) (kz := 26) xB_150 dX11_over_10 xO_150 fl_11_90 fg_11_26 (sh_81 _ _ _) rfl st_81_26 rfl ?_
  refine v_iconst (n := 14) xB_150 dX11_over_13 ⟨by decide, by decide⟩ rfl ?_
  refine v_iload_n (n := 15) xB_150 dX11_over_14 rfl rfl ?_
  refine v_imul (n := 16) xB_150 dX11_over_15 (by first | omega | (simp only [sA_same, sA_s, ud_s, Int.reduceEq, if_true, if_false, ite_true, ite_false, ↓reduceIte, and_true, true_and, eq_self, Int.add_zero, Int.reduceAdd]; omega)) rfl ?_
  refine v_baload (n := 17) (lz := 24) xB_150 dX11_over_16 (sh_99 _ _ _) rfl (by first | omega | (simp only [sA_same, sA_s, ud_s, Int.reduceEq, if_true, if_false, ite_true, ite_false, ↓reduceIte, and_true, true_and, eq_self, Int.add_zero, Int.reduceAdd]; omega)) rfl ?_
  refine v_istore_n3 (n := 18) xB_150 dX11_over_17 rfl rfl ?_
  refine v_aload_n (n := 19) xB_150 dX11_over_18 rfl rfl ?_
  refine v_gf_s (n := 22) (kz := 23) xB_150 dX11_over_19 xO_150 fl_11_81 fg_11_23 (sh_81 _ _ _) rfl st_81_23 rfl ?_
  refine v_iconst (n := 23) xB_150 dX11_over_22 ⟨by decide, by decide⟩ rfl ?_
  refine v_iload_n (n := 24) xB_150 dX11_over_23 rfl rfl ?_
  refine v_imul (n := 25) xB_150 dX11_over_24 (by first | omega | (simp only [sA_same, sA_s, ud_s, Int.reduceEq, if_true, if_false, ite_true, ite_false, ↓reduceIte, and_true, true_and, eq_self, Int.add_zero, Int.reduceAdd]; omega)) rfl ?_
  refine v_aload_n (n := 26) xB_150 dX11_over_25 rfl rfl ?_
  refine v_gf_s (n := 29) (kz := 23) xB_150 dX11_over_26 xO_150 fl_11_81 fg_11_23 (sh_81 _ _ _) rfl st_81_23 rfl ?_
  refine v_iconst (n := 30) xB_150 dX11_over_29 ⟨by decide, by decide⟩ rfl ?_
  refine v_iload_n (n := 31) xB_150 dX11_over_30 rfl rfl ?_
  refine v_imul (n := 32) xB_150 dX11_over_31 (by first | omega | (simp only [sA_same, sA_s, ud_s, Int.reduceEq, if_true, if_false, ite_true, ite_false, ↓reduceIte, and_true, true_and, eq_self, Int.add_zero, Int.reduceAdd]; omega)) rfl ?_
  refine v_iconst (n := 33) xB_150 dX11_over_32 ⟨by decide, by decide⟩ rfl ?_
  refine v_iadd (n := 34) xB_150 dX11_over_33 (by first | omega | (simp only [sA_same, sA_s, ud_s, Int.reduceEq, if_true, if_false, ite_true, ite_false, ↓reduceIte, and_true, true_and, eq_self, Int.add_zero, Int.reduceAdd]; omega)) rfl ?_
  refine v_iaload (n := 35) (lz := 24) xB_150 dX11_over_34 (sh_96 _ _ _) rfl (by first | omega | (simp only [sA_same, sA_s, ud_s, Int.reduceEq, if_true, if_false, ite_true, ite_false, ↓reduceIte, and_true, true_and, eq_self, Int.add_zero, Int.reduceAdd]; omega)) rfl ?_
  refine v_iastore (n := 36) (lz := 24) xB_150 dX11_over_35 (sh_96 _ _ _) (by decide) rfl (by first | omega | (simp only [sA_same, sA_s, ud_s, Int.reduceEq, if_true, if_false, ite_true, ite_false, ↓reduceIte, and_true, true_and, eq_self, Int.add_zero, Int.reduceAdd]; omega)) rfl ?_
  (try simp (disch := omega) only [sA_same, sA_ne, sA_sA, sA_sr, sB_s, ud_eq, ud_ne, ud_ud, ud_sr, uB_s, Int.add_zero, Int.reduceAdd])
  refine v_aload_n (n := 37) xB_150 dX11_over_36 rfl rfl ?_
  refine v_gf_s (n := 40) (kz := 26) xB_150 dX11_over_37 xO_150 fl_11_90 fg_11_26 (sh_81 _ _ _) rfl st_81_26 rfl ?_
  refine v_iconst (n := 41) xB_150 dX11_over_40 ⟨by decide, by decide⟩ rfl ?_
  refine v_iload_n (n := 42) xB_150 dX11_over_41 rfl rfl ?_
  refine v_imul (n := 43) xB_150 dX11_over_42 (by first | omega | (simp only [sA_same, sA_s, ud_s, Int.reduceEq, if_true, if_false, ite_true, ite_false, ↓reduceIte, and_true, true_and, eq_self, Int.add_zero, Int.reduceAdd]; omega)) rfl ?_
  refine v_aload_n (n := 44) xB_150 dX11_over_43 rfl rfl ?_
  refine v_gf_s (n := 47) (kz := 26) xB_150 dX11_over_44 xO_150 fl_11_90 fg_11_26 (sh_81 _ _ _) rfl st_81_26 rfl ?_
  refine v_iconst (n := 48) xB_150 dX11_over_47 ⟨by decide, by decide⟩ rfl ?_
  refine v_iload_n (n := 49) xB_150 dX11_over_48 rfl rfl ?_
  refine v_imul (n := 50) xB_150 dX11_over_49 (by first | omega | (simp only [sA_same, sA_s, ud_s, Int.reduceEq, if_true, if_false, ite_true, ite_false, ↓reduceIte, and_true, true_and, eq_self, Int.add_zero, Int.reduceAdd]; omega)) rfl ?_
  refine v_iconst (n := 51) xB_150 dX11_over_50 ⟨by decide, by decide⟩ rfl ?_
  refine v_iadd (n := 52) xB_150 dX11_over_51 (by first | omega | (simp only [sA_same, sA_s, ud_s, Int.reduceEq, if_true, if_false, ite_true, ite_false, ↓reduceIte, and_true, true_and, eq_self, Int.add_zero, Int.reduceAdd]; omega)) rfl ?_
  refine v_baload (n := 53) (lz := 24) xB_150 dX11_over_52 (sh_99 _ _ _) rfl (by first | omega | (simp only [sA_same, sA_s, ud_s, Int.reduceEq, if_true, if_false, ite_true, ite_false, ↓reduceIte, and_true, true_and, eq_self, Int.add_zero, Int.reduceAdd]; omega)) rfl ?_
  refine v_bastore01 (n := 54) (lz := 24) xB_150 dX11_over_53 (sh_99 _ _ _) (by decide) rfl (by first | omega | (simp only [sA_same, sA_s, ud_s, Int.reduceEq, if_true, if_false, ite_true, ite_false, ↓reduceIte, and_true, true_and, eq_self, Int.add_zero, Int.reduceAdd]; omega)) (by first | omega | (simp only [sA_same, sA_s, ud_s, Int.reduceEq, if_true, if_false, ite_true, ite_false, ↓reduceIte, and_true, true_and, eq_self, Int.add_zero, Int.reduceAdd]; omega)) rfl ?_
  (try simp (disch := omega) only [sA_same, sA_ne, sA_sA, sA_sr, sB_s, ud_eq, ud_ne, ud_ud, ud_sr, uB_s, Int.add_zero, Int.reduceAdd])
  refine v_aload_n (n := 55) xB_150 dX11_over_54 rfl rfl ?_
  refine v_gf_s (n := 58) (kz := 23) xB_150 dX11_over_55 xO_150 fl_11_81 fg_11_23 (sh_81 _ _ _) rfl st_81_23 rfl ?_
  refine v_iconst (n := 59) xB_150 dX11_over_58 ⟨by decide, by decide⟩ rfl ?_
  refine v_iload_n (n := 60) xB_150 dX11_over_59 rfl rfl ?_
  refine v_imul (n := 61) xB_150 dX11_over_60 (by first | omega | (simp only [sA_same, sA_s, ud_s, Int.reduceEq, if_true, if_false, ite_true, ite_false, ↓reduceIte, and_true, true_and, eq_self, Int.add_zero, Int.reduceAdd]; omega)) rfl ?_
  refine v_iconst (n := 62) xB_150 dX11_over_61 ⟨by decide, by decide⟩ rfl ?_
  refine v_iadd (n := 63) xB_150 dX11_over_62 (by first | omega | (simp only [sA_same, sA_s, ud_s, Int.reduceEq, if_true, if_false, ite_true, ite_false, ↓reduceIte, and_true, true_and, eq_self, Int.add_zero, Int.reduceAdd]; omega)) rfl ?_
  refine v_iload_n (n := 64) xB_150 dX11_over_63 rfl rfl ?_
  refine v_iastore (n := 65) (lz := 24) xB_150 dX11_over_64 (sh_96 _ _ _) (by decide) rfl (by first | omega | (simp only [sA_same, sA_s, ud_s, Int.reduceEq, if_true, if_false, ite_true, ite_false, ↓reduceIte, and_true, true_and, eq_self, Int.add_zero, Int.reduceAdd]; omega)) rfl ?_
  (try simp (disch := omega) only [sA_same, sA_ne, sA_sA, sA_sr, sB_s, ud_eq, ud_ne, ud_ud, ud_sr, uB_s, Int.add_zero, Int.reduceAdd])
  refine v_aload_n (n := 66) xB_150 dX11_over_65 rfl rfl ?_
  refine v_gf_s (n := 69) (kz := 26) xB_150 dX11_over_66 xO_150 fl_11_90 fg_11_26 (sh_81 _ _ _) rfl st_81_26 rfl ?_
  refine v_iconst (n := 70) xB_150 dX11_over_69 ⟨by decide, by decide⟩ rfl ?_
  refine v_iload_n (n := 71) xB_150 dX11_over_70 rfl rfl ?_
  refine v_imul (n := 72) xB_150 dX11_over_71 (by first | omega | (simp only [sA_same, sA_s, ud_s, Int.reduceEq, if_true, if_false, ite_true, ite_false, ↓reduceIte, and_true, true_and, eq_self, Int.add_zero, Int.reduceAdd]; omega)) rfl ?_
  refine v_iconst (n := 73) xB_150 dX11_over_72 ⟨by decide, by decide⟩ rfl ?_
  refine v_iadd (n := 74) xB_150 dX11_over_73 (by first | omega | (simp only [sA_same, sA_s, ud_s, Int.reduceEq, if_true, if_false, ite_true, ite_false, ↓reduceIte, and_true, true_and, eq_self, Int.add_zero, Int.reduceAdd]; omega)) rfl ?_
  refine v_iload_n (n := 75) xB_150 dX11_over_74 rfl rfl ?_
  refine v_bastore01 (n := 76) (lz := 24) xB_150 dX11_over_75 (sh_99 _ _ _) (by decide) rfl (by first | omega | (simp only [sA_same, sA_s, ud_s, Int.reduceEq, if_true, if_false, ite_true, ite_false, ↓reduceIte, and_true, true_and, eq_self, Int.add_zero, Int.reduceAdd]; omega)) (by first | omega | (simp only [sA_same, sA_s, ud_s, Int.reduceEq, if_true, if_false, ite_true, ite_false, ↓reduceIte, and_true, true_and, eq_self, Int.add_zero, Int.reduceAdd]; omega)) rfl ?_
  (try simp (disch := omega) only [sA_same, sA_ne, sA_sA, sA_sr, sB_s, ud_eq, ud_ne, ud_ud, ud_sr, uB_s, Int.add_zero, Int.reduceAdd])
  refine v_return xB_150 dX11_over_76 xK_150 ?_
  exact o1
set_option maxHeartbeats 1000000 in
theorem c_about {d : Nat} {s : Int} {m : PM} {dy : List (Nat × Nat)} {L : Nat} {Q : Option PV → PS → Prop} (hd : 1 ≤ d) (hs : 0 ≤ s ∧ s < 12) (hb : bl (m 99)) (o1 : Q (none) (setA m 99 (ud (ud (m 99) (2 * s) (1 - m 99 (2 * s))) (2 * s + 1) (1 - m 99 (2 * s + 1))), (none, (dy, L)))) : C d 151 [.inr (.inr 81), .inl s] (m, (none, (dy, L))) Q := by
  refine C_go (k := 0) hd xL_151 (fun d hd => ?_)
  show V d 151 (0, ([some (.inr (.inr 81)), some (.inl s)], ([], (m, (none, (dy, L)))))) Q
  have q1 := hb (2 * s)
  have q2 := hb (2 * s + 1)
  refine v_aload_n (n := 1) xB_151 dX11_about_0 rfl rfl ?_
  refine v_gf_s (n := 4) (kz := 26) xB_151 dX11_about_1 xO_151 fl_11_90 fg_11_26 (sh_81 _ _ _) rfl st_81_26 rfl ?_
  refine v_iconst (n := 5) xB_151 dX11_about_4 ⟨by decide, by decide⟩ rfl ?_
  refine v_iload_n (n := 6) xB_151 dX11_about_5 rfl rfl ?_
  refine v_imul (n := 7) xB_151 dX11_about_6 (by first | omega | (simp only [sA_same, sA_s, ud_s, Int.reduceEq, if_true, if_false, ite_true, ite_false, ↓reduceIte, and_true, true_and, eq_self, Int.add_zero, Int.reduceAdd]; omega)) rfl ?_
  refine v_aload_n (n := 8) xB_151 dX11_about_7 rfl rfl ?_
  refine v_gf_s (n := 11) (kz := 26) xB_151 dX11_about_8 xO_151 fl_11_90 fg_11_26 (sh_81 _ _ _) rfl st_81_26 rfl ?_
  refine v_iconst (n := 12) xB_151 dX11_about_11 ⟨by decide, by decide⟩ rfl ?_
  refine v_iload_n (n := 13) xB_151 dX11_about_12 rfl rfl ?_
  refine v_imul (n := 14) xB_151 dX11_about_13 (by first | omega | (simp only [sA_same, sA_s, ud_s, Int.reduceEq, if_true, if_false, ite_true, ite_false, ↓reduceIte, and_true, true_and, eq_self, Int.add_zero, Int.reduceAdd]; omega)) rfl ?_
  refine v_baload (n := 15) (lz := 24) xB_151 dX11_about_14 (sh_99 _ _ _) rfl (by first | omega | (simp only [sA_same, sA_s, ud_s, Int.reduceEq, if_true, if_false, ite_true, ite_false, ↓reduceIte, and_true, true_and, eq_self, Int.add_zero, Int.reduceAdd]; omega)) rfl ?_
  refine v_if_ne (t := 22) (n := 18) xB_151 dX11_about_15 (by decide) rfl rfl (fun g1 => ?_) (fun g1 => ?_)
  · (try simp (disch := omega) only [sA_same, sA_ne, sA_sA, sA_sr, sB_s, ud_eq, ud_ne, ud_ud, ud_sr, uB_s, Int.add_zero, Int.reduceAdd] at g1)
    refine v_iconst (n := 23) xB_151 dX11_about_22 ⟨by decide, by decide⟩ rfl ?_
    refine v_bastore01 (n := 24) (lz := 24) xB_151 dX11_about_23 (sh_99 _ _ _) (by decide) rfl (by first | omega | (simp only [sA_same, sA_s, ud_s, Int.reduceEq, if_true, if_false, ite_true, ite_false, ↓reduceIte, and_true, true_and, eq_self, Int.add_zero, Int.reduceAdd]; omega)) (by decide) rfl ?_
    (try simp (disch := omega) only [sA_same, sA_ne, sA_sA, sA_sr, sB_s, ud_eq, ud_ne, ud_ud, ud_sr, uB_s, Int.add_zero, Int.reduceAdd])
    refine v_aload_n (n := 25) xB_151 dX11_about_24 rfl rfl ?_
    refine v_gf_s (n := 28) (kz := 26) xB_151 dX11_about_25 xO_151 fl_11_90 fg_11_26 (sh_81 _ _ _) rfl st_81_26 rfl ?_
    refine v_iconst (n := 29) xB_151 dX11_about_28 ⟨by decide, by decide⟩ rfl ?_
    refine v_iload_n (n := 30) xB_151 dX11_about_29 rfl rfl ?_
    refine v_imul (n := 31) xB_151 dX11_about_30 (by first | omega | (simp only [sA_same, sA_s, ud_s, Int.reduceEq, if_true, if_false, ite_true, ite_false, ↓reduceIte, and_true, true_and, eq_self, Int.add_zero, Int.reduceAdd]; omega)) rfl ?_
    refine v_iconst (n := 32) xB_151 dX11_about_31 ⟨by decide, by decide⟩ rfl ?_
    refine v_iadd (n := 33) xB_151 dX11_about_32 (by first | omega | (simp only [sA_same, sA_s, ud_s, Int.reduceEq, if_true, if_false, ite_true, ite_false, ↓reduceIte, and_true, true_and, eq_self, Int.add_zero, Int.reduceAdd]; omega)) rfl ?_
    refine v_aload_n (n := 34) xB_151 dX11_about_33 rfl rfl ?_
    refine v_gf_s (n := 37) (kz := 26) xB_151 dX11_about_34 xO_151 fl_11_90 fg_11_26 (sh_81 _ _ _) rfl st_81_26 rfl ?_
    refine v_iconst (n := 38) xB_151 dX11_about_37 ⟨by decide, by decide⟩ rfl ?_
    refine v_iload_n (n := 39) xB_151 dX11_about_38 rfl rfl ?_
    refine v_imul (n := 40) xB_151 dX11_about_39 (by first | omega | (simp only [sA_same, sA_s, ud_s, Int.reduceEq, if_true, if_false, ite_true, ite_false, ↓reduceIte, and_true, true_and, eq_self, Int.add_zero, Int.reduceAdd]; omega)) rfl ?_
    refine v_iconst (n := 41) xB_151 dX11_about_40 ⟨by decide, by decide⟩ rfl ?_
    refine v_iadd (n := 42) xB_151 dX11_about_41 (by first | omega | (simp only [sA_same, sA_s, ud_s, Int.reduceEq, if_true, if_false, ite_true, ite_false, ↓reduceIte, and_true, true_and, eq_self, Int.add_zero, Int.reduceAdd]; omega)) rfl ?_
    refine v_baload (n := 43) (lz := 24) xB_151 dX11_about_42 (sh_99 _ _ _) rfl (by first | omega | (simp only [sA_same, sA_s, ud_s, Int.reduceEq, if_true, if_false, ite_true, ite_false, ↓reduceIte, and_true, true_and, eq_self, Int.add_zero, Int.reduceAdd]; omega)) rfl ?_
    refine v_if_ne (t := 50) (n := 46) xB_151 dX11_about_43 (by decide) rfl rfl (fun g2 => ?_) (fun g2 => ?_)
    · (try simp (disch := omega) only [sA_same, sA_ne, sA_sA, sA_sr, sB_s, ud_eq, ud_ne, ud_ud, ud_sr, uB_s, Int.add_zero, Int.reduceAdd] at g2)
      refine v_iconst (n := 51) xB_151 dX11_about_50 ⟨by decide, by decide⟩ rfl ?_
      refine v_bastore01 (n := 52) (lz := 24) xB_151 dX11_about_51 (sh_99 _ _ _) (by decide) rfl (by first | omega | (simp only [sA_same, sA_s, ud_s, Int.reduceEq, if_true, if_false, ite_true, ite_false, ↓reduceIte, and_true, true_and, eq_self, Int.add_zero, Int.reduceAdd]; omega)) (by decide) rfl ?_
      (try simp (disch := omega) only [sA_same, sA_ne, sA_sA, sA_sr, sB_s, ud_eq, ud_ne, ud_ud, ud_sr, uB_s, Int.add_zero, Int.reduceAdd])
      refine v_return xB_151 dX11_about_52 xK_151 ?_
      (first | rw [show 1 - m 99 (2 * s) = 0 by omega] at o1 | rw [show 1 - m 99 (2 * s) = 1 by omega] at o1); (first | rw [show 1 - m 99 (2 * s + 1) = 0 by omega] at o1 | rw [show 1 - m 99 (2 * s + 1) = 1 by omega] at o1); exact o1
    · (try simp (disch := omega) only [sA_same, sA_ne, sA_sA, sA_sr, sB_s, ud_eq, ud_ne, ud_ud, ud_sr, uB_s, Int.add_zero, Int.reduceAdd] at g2)
      refine v_iconst (n := 47) xB_151 dX11_about_46 ⟨by decide, by decide⟩ rfl ?_
      refine v_goto (t := 51) xB_151 dX11_about_47 (by decide) rfl ?_
      refine v_bastore01 (n := 52) (lz := 24) xB_151 dX11_about_51 (sh_99 _ _ _) (by decide) rfl (by first | omega | (simp only [sA_same, sA_s, ud_s, Int.reduceEq, if_true, if_false, ite_true, ite_false, ↓reduceIte, and_true, true_and, eq_self, Int.add_zero, Int.reduceAdd]; omega)) (by decide) rfl ?_
      (try simp (disch := omega) only [sA_same, sA_ne, sA_sA, sA_sr, sB_s, ud_eq, ud_ne, ud_ud, ud_sr, uB_s, Int.add_zero, Int.reduceAdd])
      refine v_return xB_151 dX11_about_52 xK_151 ?_
      (first | rw [show 1 - m 99 (2 * s) = 0 by omega] at o1 | rw [show 1 - m 99 (2 * s) = 1 by omega] at o1); (first | rw [show 1 - m 99 (2 * s + 1) = 0 by omega] at o1 | rw [show 1 - m 99 (2 * s + 1) = 1 by omega] at o1); exact o1
  · (try simp (disch := omega) only [sA_same, sA_ne, sA_sA, sA_sr, sB_s, ud_eq, ud_ne, ud_ud, ud_sr, uB_s, Int.add_zero, Int.reduceAdd] at g1)
    refine v_iconst (n := 19) xB_151 dX11_about_18 ⟨by decide, by decide⟩ rfl ?_
    refine v_goto (t := 23) xB_151 dX11_about_19 (by decide) rfl ?_
    refine v_bastore01 (n := 24) (lz := 24) xB_151 dX11_about_23 (sh_99 _ _ _) (by decide) rfl (by first | omega | (simp only [sA_same, sA_s, ud_s, Int.reduceEq, if_true, if_false, ite_true, ite_false, ↓reduceIte, and_true, true_and, eq_self, Int.add_zero, Int.reduceAdd]; omega)) (by decide) rfl ?_
    (try simp (disch := omega) only [sA_same, sA_ne, sA_sA, sA_sr, sB_s, ud_eq, ud_ne, ud_ud, ud_sr, uB_s, Int.add_zero, Int.reduceAdd])
    refine v_aload_n (n := 25) xB_151 dX11_about_24 rfl rfl ?_
    refine v_gf_s (n := 28) (kz := 26) xB_151 dX11_about_25 xO_151 fl_11_90 fg_11_26 (sh_81 _ _ _) rfl st_81_26 rfl ?_
    refine v_iconst (n := 29) xB_151 dX11_about_28 ⟨by decide, by decide⟩ rfl ?_
    refine v_iload_n (n := 30) xB_151 dX11_about_29 rfl rfl ?_
    refine v_imul (n := 31) xB_151 dX11_about_30 (by first | omega | (simp only [sA_same, sA_s, ud_s, Int.reduceEq, if_true, if_false, ite_true, ite_false, ↓reduceIte, and_true, true_and, eq_self, Int.add_zero, Int.reduceAdd]; omega)) rfl ?_
    refine v_iconst (n := 32) xB_151 dX11_about_31 ⟨by decide, by decide⟩ rfl ?_
    refine v_iadd (n := 33) xB_151 dX11_about_32 (by first | omega | (simp only [sA_same, sA_s, ud_s, Int.reduceEq, if_true, if_false, ite_true, ite_false, ↓reduceIte, and_true, true_and, eq_self, Int.add_zero, Int.reduceAdd]; omega)) rfl ?_
    refine v_aload_n (n := 34) xB_151 dX11_about_33 rfl rfl ?_
    refine v_gf_s (n := 37) (kz := 26) xB_151 dX11_about_34 xO_151 fl_11_90 fg_11_26 (sh_81 _ _ _) rfl st_81_26 rfl ?_
    refine v_iconst (n := 38) xB_151 dX11_about_37 ⟨by decide, by decide⟩ rfl ?_
    refine v_iload_n (n := 39) xB_151 dX11_about_38 rfl rfl ?_
    refine v_imul (n := 40) xB_151 dX11_about_39 (by first | omega | (simp only [sA_same, sA_s, ud_s, Int.reduceEq, if_true, if_false, ite_true, ite_false, ↓reduceIte, and_true, true_and, eq_self, Int.add_zero, Int.reduceAdd]; omega)) rfl ?_
    refine v_iconst (n := 41) xB_151 dX11_about_40 ⟨by decide, by decide⟩ rfl ?_
    refine v_iadd (n := 42) xB_151 dX11_about_41 (by first | omega | (simp only [sA_same, sA_s, ud_s, Int.reduceEq, if_true, if_false, ite_true, ite_false, ↓reduceIte, and_true, true_and, eq_self, Int.add_zero, Int.reduceAdd]; omega)) rfl ?_
    refine v_baload (n := 43) (lz := 24) xB_151 dX11_about_42 (sh_99 _ _ _) rfl (by first | omega | (simp only [sA_same, sA_s, ud_s, Int.reduceEq, if_true, if_false, ite_true, ite_false, ↓reduceIte, and_true, true_and, eq_self, Int.add_zero, Int.reduceAdd]; omega)) rfl ?_
    refine v_if_ne (t := 50) (n := 46) xB_151 dX11_about_43 (by decide) rfl rfl (fun g3 => ?_) (fun g3 => ?_)
    · (try simp (disch := omega) only [sA_same, sA_ne, sA_sA, sA_sr, sB_s, ud_eq, ud_ne, ud_ud, ud_sr, uB_s, Int.add_zero, Int.reduceAdd] at g3)
      refine v_iconst (n := 51) xB_151 dX11_about_50 ⟨by decide, by decide⟩ rfl ?_
      refine v_bastore01 (n := 52) (lz := 24) xB_151 dX11_about_51 (sh_99 _ _ _) (by decide) rfl (by first | omega | (simp only [sA_same, sA_s, ud_s, Int.reduceEq, if_true, if_false, ite_true, ite_false, ↓reduceIte, and_true, true_and, eq_self, Int.add_zero, Int.reduceAdd]; omega)) (by decide) rfl ?_
      (try simp (disch := omega) only [sA_same, sA_ne, sA_sA, sA_sr, sB_s, ud_eq, ud_ne, ud_ud, ud_sr, uB_s, Int.add_zero, Int.reduceAdd])
      refine v_return xB_151 dX11_about_52 xK_151 ?_
      (first | rw [show 1 - m 99 (2 * s) = 0 by omega] at o1 | rw [show 1 - m 99 (2 * s) = 1 by omega] at o1); (first | rw [show 1 - m 99 (2 * s + 1) = 0 by omega] at o1 | rw [show 1 - m 99 (2 * s + 1) = 1 by omega] at o1); exact o1
    · (try simp (disch := omega) only [sA_same, sA_ne, sA_sA, sA_sr, sB_s, ud_eq, ud_ne, ud_ud, ud_sr, uB_s, Int.add_zero, Int.reduceAdd] at g3)
      refine v_iconst (n := 47) xB_151 dX11_about_46 ⟨by decide, by decide⟩ rfl ?_
      refine v_goto (t := 51) xB_151 dX11_about_47 (by decide) rfl ?_
      refine v_bastore01 (n := 52) (lz := 24) xB_151 dX11_about_51 (sh_99 _ _ _) (by decide) rfl (by first | omega | (simp only [sA_same, sA_s, ud_s, Int.reduceEq, if_true, if_false, ite_true, ite_false, ↓reduceIte, and_true, true_and, eq_self, Int.add_zero, Int.reduceAdd]; omega)) (by decide) rfl ?_
      (try simp (disch := omega) only [sA_same, sA_ne, sA_sA, sA_sr, sB_s, ud_eq, ud_ne, ud_ud, ud_sr, uB_s, Int.add_zero, Int.reduceAdd])
      refine v_return xB_151 dX11_about_52 xK_151 ?_
      (first | rw [show 1 - m 99 (2 * s) = 0 by omega] at o1 | rw [show 1 - m 99 (2 * s) = 1 by omega] at o1); (first | rw [show 1 - m 99 (2 * s + 1) = 0 by omega] at o1 | rw [show 1 - m 99 (2 * s + 1) = 1 by omega] at o1); exact o1
set_option maxHeartbeats 1000000 in
theorem c_isRight {d : Nat} {s : Int} {m : PM} {dy : List (Nat × Nat)} {L : Nat} {Q : Option PV → PS → Prop} (hd : 1 ≤ d) (hs : 0 ≤ s ∧ s < 12) (o1 : (m 96 (2 * s) = 2 * s + 1 ∧ m 96 (2 * s + 1) = 2 * s + 2 ∧ m 99 (2 * s) = 0 ∧ m 99 (2 * s + 1) = 0) → Q (some (.inl 1)) (m, (none, (dy, L)))) (o2 : (¬ (m 96 (2 * s) = 2 * s + 1 ∧ m 96 (2 * s + 1) = 2 * s + 2 ∧ m 99 (2 * s) = 0 ∧ m 99 (2 * s + 1) = 0)) → Q (some (.inl 0)) (m, (none, (dy, L)))) : C d 157 [.inr (.inr 81), .inl s] (m, (none, (dy, L))) Q := by
  refine C_go (k := 0) hd xL_157 (fun d hd => ?_)
  show V d 157 (0, ([some (.inr (.inr 81)), some (.inl s)], ([], (m, (none, (dy, L)))))) Q
  refine v_aload_n (n := 1) xB_157 dX11_isRight_0 rfl rfl ?_
  refine v_gf_s (n := 4) (kz := 23) xB_157 dX11_isRight_1 xO_157 fl_11_81 fg_11_23 (sh_81 _ _ _) rfl st_81_23 rfl ?_
  refine v_iconst (n := 5) xB_157 dX11_isRight_4 ⟨by decide, by decide⟩ rfl ?_
  refine v_iload_n (n := 6) xB_157 dX11_isRight_5 rfl rfl ?_
  refine v_imul (n := 7) xB_157 dX11_isRight_6 (by first | omega | (simp only [sA_same, sA_s, ud_s, Int.reduceEq, if_true, if_false, ite_true, ite_false, ↓reduceIte, and_true, true_and, eq_self, Int.add_zero, Int.reduceAdd]; omega)) rfl ?_
  refine v_iaload (n := 8) (lz := 24) xB_157 dX11_isRight_7 (sh_96 _ _ _) rfl (by first | omega | (simp only [sA_same, sA_s, ud_s, Int.reduceEq, if_true, if_false, ite_true, ite_false, ↓reduceIte, and_true, true_and, eq_self, Int.add_zero, Int.reduceAdd]; omega)) rfl ?_
  refine v_iconst (n := 9) xB_157 dX11_isRight_8 ⟨by decide, by decide⟩ rfl ?_
  refine v_iload_n (n := 10) xB_157 dX11_isRight_9 rfl rfl ?_
  refine v_imul (n := 11) xB_157 dX11_isRight_10 (by first | omega | (simp only [sA_same, sA_s, ud_s, Int.reduceEq, if_true, if_false, ite_true, ite_false, ↓reduceIte, and_true, true_and, eq_self, Int.add_zero, Int.reduceAdd]; omega)) rfl ?_
  refine v_iconst (n := 12) xB_157 dX11_isRight_11 ⟨by decide, by decide⟩ rfl ?_
  refine v_iadd (n := 13) xB_157 dX11_isRight_12 (by first | omega | (simp only [sA_same, sA_s, ud_s, Int.reduceEq, if_true, if_false, ite_true, ite_false, ↓reduceIte, and_true, true_and, eq_self, Int.add_zero, Int.reduceAdd]; omega)) rfl ?_
  refine v_ic_ne (t := 62) (n := 16) xB_157 dX11_isRight_13 (by decide) rfl rfl (fun g1 => ?_) (fun g1 => ?_)
  · refine v_iconst (n := 63) xB_157 dX11_isRight_62 ⟨by decide, by decide⟩ rfl ?_
    refine v_ireturn1 xB_157 dX11_isRight_63 xK_157 (by decide) ?_
    first | exact o1 (by first | omega | (simp only [sA_same, sA_s, ud_s, Int.reduceEq, if_true, if_false, ite_true, ite_false, ↓reduceIte, and_true, true_and, eq_self, Int.add_zero, Int.reduceAdd]; omega)) | exact o2 (by first | omega | (simp only [sA_same, sA_s, ud_s, Int.reduceEq, if_true, if_false, ite_true, ite_false, ↓reduceIte, and_true, true_and, eq_self, Int.add_zero, Int.reduceAdd]; omega))
  · refine v_aload_n (n := 17) xB_157 dX11_isRight_16 rfl rfl ?_
    refine v_gf_s (n := 20) (kz := 23) xB_157 dX11_isRight_17 xO_157 fl_11_81 fg_11_23 (sh_81 _ _ _) rfl st_81_23 rfl ?_
    refine v_iconst (n := 21) xB_157 dX11_isRight_20 ⟨by decide, by decide⟩ rfl ?_
    refine v_iload_n (n := 22) xB_157 dX11_isRight_21 rfl rfl ?_
    refine v_imul (n := 23) xB_157 dX11_isRight_22 (by first | omega | (simp only [sA_same, sA_s, ud_s, Int.reduceEq, if_true, if_false, ite_true, ite_false, ↓reduceIte, and_true, true_and, eq_self, Int.add_zero, Int.reduceAdd]; omega)) rfl ?_
    refine v_iconst (n := 24) xB_157 dX11_isRight_23 ⟨by decide, by decide⟩ rfl ?_
    refine v_iadd (n := 25) xB_157 dX11_isRight_24 (by first | omega | (simp only [sA_same, sA_s, ud_s, Int.reduceEq, if_true, if_false, ite_true, ite_false, ↓reduceIte, and_true, true_and, eq_self, Int.add_zero, Int.reduceAdd]; omega)) rfl ?_
    refine v_iaload (n := 26) (lz := 24) xB_157 dX11_isRight_25 (sh_96 _ _ _) rfl (by first | omega | (simp only [sA_same, sA_s, ud_s, Int.reduceEq, if_true, if_false, ite_true, ite_false, ↓reduceIte, and_true, true_and, eq_self, Int.add_zero, Int.reduceAdd]; omega)) rfl ?_
    refine v_iconst (n := 27) xB_157 dX11_isRight_26 ⟨by decide, by decide⟩ rfl ?_
    refine v_iload_n (n := 28) xB_157 dX11_isRight_27 rfl rfl ?_
    refine v_imul (n := 29) xB_157 dX11_isRight_28 (by first | omega | (simp only [sA_same, sA_s, ud_s, Int.reduceEq, if_true, if_false, ite_true, ite_false, ↓reduceIte, and_true, true_and, eq_self, Int.add_zero, Int.reduceAdd]; omega)) rfl ?_
    refine v_iconst (n := 30) xB_157 dX11_isRight_29 ⟨by decide, by decide⟩ rfl ?_
    refine v_iadd (n := 31) xB_157 dX11_isRight_30 (by first | omega | (simp only [sA_same, sA_s, ud_s, Int.reduceEq, if_true, if_false, ite_true, ite_false, ↓reduceIte, and_true, true_and, eq_self, Int.add_zero, Int.reduceAdd]; omega)) rfl ?_
    refine v_ic_ne (t := 62) (n := 34) xB_157 dX11_isRight_31 (by decide) rfl rfl (fun g2 => ?_) (fun g2 => ?_)
    · refine v_iconst (n := 63) xB_157 dX11_isRight_62 ⟨by decide, by decide⟩ rfl ?_
      refine v_ireturn1 xB_157 dX11_isRight_63 xK_157 (by decide) ?_
      first | exact o1 (by first | omega | (simp only [sA_same, sA_s, ud_s, Int.reduceEq, if_true, if_false, ite_true, ite_false, ↓reduceIte, and_true, true_and, eq_self, Int.add_zero, Int.reduceAdd]; omega)) | exact o2 (by first | omega | (simp only [sA_same, sA_s, ud_s, Int.reduceEq, if_true, if_false, ite_true, ite_false, ↓reduceIte, and_true, true_and, eq_self, Int.add_zero, Int.reduceAdd]; omega))
    · refine v_aload_n (n := 35) xB_157 dX11_isRight_34 rfl rfl ?_
      refine v_gf_s (n := 38) (kz := 26) xB_157 dX11_isRight_35 xO_157 fl_11_90 fg_11_26 (sh_81 _ _ _) rfl st_81_26 rfl ?_
      refine v_iconst (n := 39) xB_157 dX11_isRight_38 ⟨by decide, by decide⟩ rfl ?_
      refine v_iload_n (n := 40) xB_157 dX11_isRight_39 rfl rfl ?_
      refine v_imul (n := 41) xB_157 dX11_isRight_40 (by first | omega | (simp only [sA_same, sA_s, ud_s, Int.reduceEq, if_true, if_false, ite_true, ite_false, ↓reduceIte, and_true, true_and, eq_self, Int.add_zero, Int.reduceAdd]; omega)) rfl ?_
      refine v_baload (n := 42) (lz := 24) xB_157 dX11_isRight_41 (sh_99 _ _ _) rfl (by first | omega | (simp only [sA_same, sA_s, ud_s, Int.reduceEq, if_true, if_false, ite_true, ite_false, ↓reduceIte, and_true, true_and, eq_self, Int.add_zero, Int.reduceAdd]; omega)) rfl ?_
      refine v_if_ne (t := 62) (n := 45) xB_157 dX11_isRight_42 (by decide) rfl rfl (fun g3 => ?_) (fun g3 => ?_)
      · refine v_iconst (n := 63) xB_157 dX11_isRight_62 ⟨by decide, by decide⟩ rfl ?_
        refine v_ireturn1 xB_157 dX11_isRight_63 xK_157 (by decide) ?_
        first | exact o1 (by first | omega | (simp only [sA_same, sA_s, ud_s, Int.reduceEq, if_true, if_false, ite_true, ite_false, ↓reduceIte, and_true, true_and, eq_self, Int.add_zero, Int.reduceAdd]; omega)) | exact o2 (by first | omega | (simp only [sA_same, sA_s, ud_s, Int.reduceEq, if_true, if_false, ite_true, ite_false, ↓reduceIte, and_true, true_and, eq_self, Int.add_zero, Int.reduceAdd]; omega))
      · refine v_aload_n (n := 46) xB_157 dX11_isRight_45 rfl rfl ?_
        refine v_gf_s (n := 49) (kz := 26) xB_157 dX11_isRight_46 xO_157 fl_11_90 fg_11_26 (sh_81 _ _ _) rfl st_81_26 rfl ?_
        refine v_iconst (n := 50) xB_157 dX11_isRight_49 ⟨by decide, by decide⟩ rfl ?_
        refine v_iload_n (n := 51) xB_157 dX11_isRight_50 rfl rfl ?_
        refine v_imul (n := 52) xB_157 dX11_isRight_51 (by first | omega | (simp only [sA_same, sA_s, ud_s, Int.reduceEq, if_true, if_false, ite_true, ite_false, ↓reduceIte, and_true, true_and, eq_self, Int.add_zero, Int.reduceAdd]; omega)) rfl ?_
        refine v_iconst (n := 53) xB_157 dX11_isRight_52 ⟨by decide, by decide⟩ rfl ?_
        refine v_iadd (n := 54) xB_157 dX11_isRight_53 (by first | omega | (simp only [sA_same, sA_s, ud_s, Int.reduceEq, if_true, if_false, ite_true, ite_false, ↓reduceIte, and_true, true_and, eq_self, Int.add_zero, Int.reduceAdd]; omega)) rfl ?_
        refine v_baload (n := 55) (lz := 24) xB_157 dX11_isRight_54 (sh_99 _ _ _) rfl (by first | omega | (simp only [sA_same, sA_s, ud_s, Int.reduceEq, if_true, if_false, ite_true, ite_false, ↓reduceIte, and_true, true_and, eq_self, Int.add_zero, Int.reduceAdd]; omega)) rfl ?_
        refine v_if_ne (t := 62) (n := 58) xB_157 dX11_isRight_55 (by decide) rfl rfl (fun g4 => ?_) (fun g4 => ?_)
        · refine v_iconst (n := 63) xB_157 dX11_isRight_62 ⟨by decide, by decide⟩ rfl ?_
          refine v_ireturn1 xB_157 dX11_isRight_63 xK_157 (by decide) ?_
          first | exact o1 (by first | omega | (simp only [sA_same, sA_s, ud_s, Int.reduceEq, if_true, if_false, ite_true, ite_false, ↓reduceIte, and_true, true_and, eq_self, Int.add_zero, Int.reduceAdd]; omega)) | exact o2 (by first | omega | (simp only [sA_same, sA_s, ud_s, Int.reduceEq, if_true, if_false, ite_true, ite_false, ↓reduceIte, and_true, true_and, eq_self, Int.add_zero, Int.reduceAdd]; omega))
        · refine v_iconst (n := 59) xB_157 dX11_isRight_58 ⟨by decide, by decide⟩ rfl ?_
          refine v_goto (t := 63) xB_157 dX11_isRight_59 (by decide) rfl ?_
          refine v_ireturn1 xB_157 dX11_isRight_63 xK_157 (by decide) ?_
          first | exact o1 (by first | omega | (simp only [sA_same, sA_s, ud_s, Int.reduceEq, if_true, if_false, ite_true, ite_false, ↓reduceIte, and_true, true_and, eq_self, Int.add_zero, Int.reduceAdd]; omega)) | exact o2 (by first | omega | (simp only [sA_same, sA_s, ud_s, Int.reduceEq, if_true, if_false, ite_true, ite_false, ↓reduceIte, and_true, true_and, eq_self, Int.add_zero, Int.reduceAdd]; omega))
def onF (n k x : Int) : Int := if k < 2 * n then x else 0
set_option maxHeartbeats 1000000 in
theorem c_on {d : Nat} {k : Int} {m : PM} {dy : List (Nat × Nat)} {L : Nat} {Q : Option PV → PS → Prop} (hd : 1 ≤ d) (hk : 0 ≤ k) (hn : 0 ≤ m 81 22 ∧ m 81 22 ≤ 12) (o1 : Q (some (.inl (onF (m 81 22) k (m 96 k)))) (m, (none, (dy, L)))) : C d 182 [.inr (.inr 81), .inl k] (m, (none, (dy, L))) Q := by
  refine C_go (k := 0) hd xL_182 (fun d hd => ?_)
  show V d 182 (0, ([some (.inr (.inr 81)), some (.inl k)], ([], (m, (none, (dy, L)))))) Q
  refine v_iload_n (n := 1) xB_182 dX11_on_0 rfl rfl ?_
  refine v_iconst (n := 2) xB_182 dX11_on_1 ⟨by decide, by decide⟩ rfl ?_
  refine v_aload_n (n := 3) xB_182 dX11_on_2 rfl rfl ?_
  refine v_gf_i (n := 6) (kz := 22) xB_182 dX11_on_3 xO_182 fl_11_78 fg_11_22 rfl (sh_81 _ _ _) rfl rfl ?_
  refine v_imul (n := 7) xB_182 dX11_on_6 (by first | omega | (simp only [sA_same, sA_s, ud_s, Int.reduceEq, if_true, if_false, ite_true, ite_false, ↓reduceIte, and_true, true_and, eq_self, Int.add_zero, Int.reduceAdd]; omega)) rfl ?_
  refine v_ic_ge (t := 19) (n := 10) xB_182 dX11_on_7 (by decide) rfl rfl (fun g1 => ?_) (fun g1 => ?_)
  · refine v_iconst (n := 20) xB_182 dX11_on_19 ⟨by decide, by decide⟩ rfl ?_
    refine v_ireturn0 xB_182 dX11_on_20 xK_182 ?_
    unfold onF at o1; first | exact o1 | (rw [if_pos (by first | omega | (simp only [sA_same, sA_s, ud_s, Int.reduceEq, if_true, if_false, ite_true, ite_false, ↓reduceIte, and_true, true_and, eq_self, Int.add_zero, Int.reduceAdd]; omega))] at o1; exact o1) | (rw [if_neg (by first | omega | (simp only [sA_same, sA_s, ud_s, Int.reduceEq, if_true, if_false, ite_true, ite_false, ↓reduceIte, and_true, true_and, eq_self, Int.add_zero, Int.reduceAdd]; omega))] at o1; exact o1)
  · refine v_aload_n (n := 11) xB_182 dX11_on_10 rfl rfl ?_
    refine v_gf_s (n := 14) (kz := 23) xB_182 dX11_on_11 xO_182 fl_11_81 fg_11_23 (sh_81 _ _ _) rfl st_81_23 rfl ?_
    refine v_iload_n (n := 15) xB_182 dX11_on_14 rfl rfl ?_
    refine v_iaload (n := 16) (lz := 24) xB_182 dX11_on_15 (sh_96 _ _ _) rfl (by first | omega | (simp only [sA_same, sA_s, ud_s, Int.reduceEq, if_true, if_false, ite_true, ite_false, ↓reduceIte, and_true, true_and, eq_self, Int.add_zero, Int.reduceAdd]; omega)) rfl ?_
    refine v_goto (t := 20) xB_182 dX11_on_16 (by decide) rfl ?_
    refine v_ireturn0 xB_182 dX11_on_20 xK_182 ?_
    unfold onF at o1; first | exact o1 | (rw [if_pos (by first | omega | (simp only [sA_same, sA_s, ud_s, Int.reduceEq, if_true, if_false, ite_true, ite_false, ↓reduceIte, and_true, true_and, eq_self, Int.add_zero, Int.reduceAdd]; omega))] at o1; exact o1) | (rw [if_neg (by first | omega | (simp only [sA_same, sA_s, ud_s, Int.reduceEq, if_true, if_false, ite_true, ite_false, ↓reduceIte, and_true, true_and, eq_self, Int.add_zero, Int.reduceAdd]; omega))] at o1; exact o1)
