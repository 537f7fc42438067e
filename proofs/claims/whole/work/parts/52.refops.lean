/-! The reference: trays, the text, the stack, as it is called. -/
set_option maxHeartbeats 1000000 in
theorem c_tray {d : Nat} {k n : Int} {m : PM} {dy : List (Nat × Nat)} {L : Nat} {Q : Option PV → PS → Prop} (hd : 2 ≤ d) (hT : 0 ≤ m 81 0 ∧ m 81 0 ≤ 5) (o1 : (¬ (0 ≤ k ∧ k ≤ 6)) → Q (some (.inl (-1))) (m, (none, (dy, L)))) (o2 : ((0 ≤ k ∧ k ≤ 6) ∧ ¬ (0 ≤ n ∧ n ≤ 9)) → Q (some (.inl (-2))) (m, (none, (dy, L)))) (o3 : ((0 ≤ k ∧ k ≤ 6) ∧ (0 ≤ n ∧ n ≤ 9) ∧ m 81 0 = 5) → Q (some (.inl (-4))) (m, (none, (dy, L)))) (o4 : ((0 ≤ k ∧ k ≤ 6) ∧ (0 ≤ n ∧ n ≤ 9) ∧ m 81 0 < 5) → Q (some (.inl (m 81 0 + 1 - 1))) (setA (setA (setA (setA (setA m 81 (ud (m 81) 0 (m 81 0 + 1))) 82 (ud (m 82) (m 81 0) k)) 83 (ud (m 83) (m 81 0) n)) 84 (ud (m 84) (m 81 0) 0)) 85 (ivl (fun _ => 0) (m 85) (4 * m 81 0) (4 * m 81 0 + 4)), (none, (dy, L)))) : C d 122 [.inr (.inr 81), .inl k, .inl n] (m, (none, (dy, L))) Q := by
  refine C_go (k := 1) hd xL_122 (fun d hd => ?_)
  show V d 122 (0, ([some (.inr (.inr 81)), some (.inl k), some (.inl n), none], ([], (m, (none, (dy, L)))))) Q
  refine v_aload_n (n := 1) xB_122 dX11_tray_0 rfl rfl ?_
  refine v_iload_n (n := 2) xB_122 dX11_tray_1 rfl rfl ?_
  refine v_iconst (n := 3) xB_122 dX11_tray_2 ⟨by decide, by decide⟩ rfl ?_
  refine v_bipush (n := 5) xB_122 dX11_tray_3 ⟨by decide, by decide⟩ rfl ?_
  refine v_call_v (n := 8) xB_122 dX11_tray_5 xO_122 iv_11_221 rfl (sh_81 _ _ _) rfl rfl rfl ?_
  refine c_in (by omega)  (fun g1 => ?_) (fun g2 => ?_)
  · (try simp (disch := omega) only [sA_same, sA_ne, sA_sA, sA_sr, sB_s, ud_eq, ud_ne, ud_ud, ud_sr, uB_s, Int.add_zero, Int.reduceAdd] at g1)
    refine v_if_ne_y (t := 13) xB_122 dX11_tray_8 (by decide) rfl (by decide) ?_
    refine v_aload_n (n := 14) xB_122 dX11_tray_13 rfl rfl ?_
    refine v_iload_n (n := 15) xB_122 dX11_tray_14 rfl rfl ?_
    refine v_iconst (n := 16) xB_122 dX11_tray_15 ⟨by decide, by decide⟩ rfl ?_
    refine v_bipush (n := 18) xB_122 dX11_tray_16 ⟨by decide, by decide⟩ rfl ?_
    refine v_call_v (n := 21) xB_122 dX11_tray_18 xO_122 iv_11_221 rfl (sh_81 _ _ _) rfl rfl rfl ?_
    refine c_in (by omega)  (fun g3 => ?_) (fun g4 => ?_)
    · (try simp (disch := omega) only [sA_same, sA_ne, sA_sA, sA_sr, sB_s, ud_eq, ud_ne, ud_ud, ud_sr, uB_s, Int.add_zero, Int.reduceAdd] at g3)
      refine v_if_ne_y (t := 27) xB_122 dX11_tray_21 (by decide) rfl (by decide) ?_
      refine v_aload_n (n := 28) xB_122 dX11_tray_27 rfl rfl ?_
      refine v_gf_i (n := 31) (kz := 0) xB_122 dX11_tray_28 xO_122 fl_11_7 fg_11_0 rfl (sh_81 _ _ _) rfl rfl ?_
      refine v_iconst (n := 32) xB_122 dX11_tray_31 ⟨by decide, by decide⟩ rfl ?_
      refine v_ic_ne (t := 38) (n := 35) xB_122 dX11_tray_32 (by decide) rfl rfl (fun g5 => ?_) (fun g5 => ?_)
      · (try simp (disch := omega) only [sA_same, sA_ne, sA_sA, sA_sr, sB_s, ud_eq, ud_ne, ud_ud, ud_sr, uB_s, Int.add_zero, Int.reduceAdd] at g5)
        refine v_aload_n (n := 39) xB_122 dX11_tray_38 rfl rfl ?_
        refine v_gf_s (n := 42) (kz := 1) xB_122 dX11_tray_39 xO_122 fl_11_13 fg_11_1 (sh_81 _ _ _) rfl st_81_1 rfl ?_
        refine v_aload_n (n := 43) xB_122 dX11_tray_42 rfl rfl ?_
        refine v_gf_i (n := 46) (kz := 0) xB_122 dX11_tray_43 xO_122 fl_11_7 fg_11_0 rfl (sh_81 _ _ _) rfl rfl ?_
        refine v_iload_n (n := 47) xB_122 dX11_tray_46 rfl rfl ?_
        refine v_iastore (n := 48) (lz := 5) xB_122 dX11_tray_47 (sh_82 _ _ _) (by decide) rfl (by first | omega | (simp only [sA_same, sA_s, ud_s, Int.reduceEq, if_true, if_false, ite_true, ite_false, ↓reduceIte, and_true, true_and, eq_self, Int.add_zero, Int.reduceAdd]; omega) | (simp (disch := omega) only [sA_same, sA_ne, ud_eq, ud_ne, Int.add_zero, Int.reduceAdd]; omega)) rfl ?_
        (try simp (disch := omega) only [sA_same, sA_ne, sA_sA, sA_sr, sB_s, ud_eq, ud_ne, ud_ud, ud_sr, uB_s, Int.add_zero, Int.reduceAdd])
        refine v_aload_n (n := 49) xB_122 dX11_tray_48 rfl rfl ?_
        refine v_gf_s (n := 52) (kz := 2) xB_122 dX11_tray_49 xO_122 fl_11_17 fg_11_2 (sh_81 _ _ _) rfl st_81_2 rfl ?_
        refine v_aload_n (n := 53) xB_122 dX11_tray_52 rfl rfl ?_
        refine v_gf_i (n := 56) (kz := 0) xB_122 dX11_tray_53 xO_122 fl_11_7 fg_11_0 rfl (sh_81 _ _ _) rfl rfl ?_
        refine v_iload_n (n := 57) xB_122 dX11_tray_56 rfl rfl ?_
        refine v_iastore (n := 58) (lz := 5) xB_122 dX11_tray_57 (sh_83 _ _ _) (by decide) rfl (by first | omega | (simp only [sA_same, sA_s, ud_s, Int.reduceEq, if_true, if_false, ite_true, ite_false, ↓reduceIte, and_true, true_and, eq_self, Int.add_zero, Int.reduceAdd]; omega) | (simp (disch := omega) only [sA_same, sA_ne, ud_eq, ud_ne, Int.add_zero, Int.reduceAdd]; omega)) rfl ?_
        (try simp (disch := omega) only [sA_same, sA_ne, sA_sA, sA_sr, sB_s, ud_eq, ud_ne, ud_ud, ud_sr, uB_s, Int.add_zero, Int.reduceAdd])
        refine v_aload_n (n := 59) xB_122 dX11_tray_58 rfl rfl ?_
        refine v_gf_s (n := 62) (kz := 3) xB_122 dX11_tray_59 xO_122 fl_11_20 fg_11_3 (sh_81 _ _ _) rfl st_81_3 rfl ?_
        refine v_aload_n (n := 63) xB_122 dX11_tray_62 rfl rfl ?_
        refine v_gf_i (n := 66) (kz := 0) xB_122 dX11_tray_63 xO_122 fl_11_7 fg_11_0 rfl (sh_81 _ _ _) rfl rfl ?_
        refine v_iconst (n := 67) xB_122 dX11_tray_66 ⟨by decide, by decide⟩ rfl ?_
        refine v_iastore (n := 68) (lz := 5) xB_122 dX11_tray_67 (sh_84 _ _ _) (by decide) rfl (by first | omega | (simp only [sA_same, sA_s, ud_s, Int.reduceEq, if_true, if_false, ite_true, ite_false, ↓reduceIte, and_true, true_and, eq_self, Int.add_zero, Int.reduceAdd]; omega) | (simp (disch := omega) only [sA_same, sA_ne, ud_eq, ud_ne, Int.add_zero, Int.reduceAdd]; omega)) rfl ?_
        (try simp (disch := omega) only [sA_same, sA_ne, sA_sA, sA_sr, sB_s, ud_eq, ud_ne, ud_ud, ud_sr, uB_s, Int.add_zero, Int.reduceAdd])
        refine v_iconst (n := 69) xB_122 dX11_tray_68 ⟨by decide, by decide⟩ rfl ?_
        refine v_istore_n3 (n := 70) xB_122 dX11_tray_69 rfl rfl ?_
        refine v_iload_n (n := 71) xB_122 dX11_tray_70 rfl rfl ?_
        refine v_iconst (n := 72) xB_122 dX11_tray_71 ⟨by decide, by decide⟩ rfl ?_
        refine v_ic_ge_n (n := 75) xB_122 dX11_tray_72 (by decide) rfl (by decide) ?_
        refine v_aload_n (n := 76) xB_122 dX11_tray_75 rfl rfl ?_
        refine v_gf_s (n := 79) (kz := 4) xB_122 dX11_tray_76 xO_122 fl_11_23 fg_11_4 (sh_81 _ _ _) rfl st_81_4 rfl ?_
        refine v_iconst (n := 80) xB_122 dX11_tray_79 ⟨by decide, by decide⟩ rfl ?_
        refine v_aload_n (n := 81) xB_122 dX11_tray_80 rfl rfl ?_
        refine v_gf_i (n := 84) (kz := 0) xB_122 dX11_tray_81 xO_122 fl_11_7 fg_11_0 rfl (sh_81 _ _ _) rfl rfl ?_
        refine v_imul (n := 85) xB_122 dX11_tray_84 (by first | omega | (simp only [sA_same, sA_s, ud_s, Int.reduceEq, if_true, if_false, ite_true, ite_false, ↓reduceIte, and_true, true_and, eq_self, Int.add_zero, Int.reduceAdd]; omega) | (simp (disch := omega) only [sA_same, sA_ne, ud_eq, ud_ne, Int.add_zero, Int.reduceAdd]; omega)) rfl ?_
        refine v_iload_n (n := 86) xB_122 dX11_tray_85 rfl rfl ?_
        refine v_iadd (n := 87) xB_122 dX11_tray_86 (by first | omega | (simp only [sA_same, sA_s, ud_s, Int.reduceEq, if_true, if_false, ite_true, ite_false, ↓reduceIte, and_true, true_and, eq_self, Int.add_zero, Int.reduceAdd]; omega) | (simp (disch := omega) only [sA_same, sA_ne, ud_eq, ud_ne, Int.add_zero, Int.reduceAdd]; omega)) rfl ?_
        refine v_iconst (n := 88) xB_122 dX11_tray_87 ⟨by decide, by decide⟩ rfl ?_
        refine v_iastore (n := 89) (lz := 20) xB_122 dX11_tray_88 (sh_85 _ _ _) (by decide) rfl (by first | omega | (simp only [sA_same, sA_s, ud_s, Int.reduceEq, if_true, if_false, ite_true, ite_false, ↓reduceIte, and_true, true_and, eq_self, Int.add_zero, Int.reduceAdd]; omega) | (simp (disch := omega) only [sA_same, sA_ne, ud_eq, ud_ne, Int.add_zero, Int.reduceAdd]; omega)) rfl ?_
        (try simp (disch := omega) only [sA_same, sA_ne, sA_sA, sA_sr, sB_s, ud_eq, ud_ne, ud_ud, ud_sr, uB_s, Int.add_zero, Int.reduceAdd])
        refine v_iinc3 (n := 92) xB_122 dX11_tray_89 rfl (by first | omega | (simp only [sA_same, sA_s, ud_s, Int.reduceEq, if_true, if_false, ite_true, ite_false, ↓reduceIte, and_true, true_and, eq_self, Int.add_zero, Int.reduceAdd]; omega) | (simp (disch := omega) only [sA_same, sA_ne, ud_eq, ud_ne, Int.add_zero, Int.reduceAdd]; omega)) rfl ?_
        refine v_goto (t := 70) xB_122 dX11_tray_92 (by decide) rfl ?_
        refine v_iload_n (n := 71) xB_122 dX11_tray_70 rfl rfl ?_
        refine v_iconst (n := 72) xB_122 dX11_tray_71 ⟨by decide, by decide⟩ rfl ?_
        refine v_ic_ge_n (n := 75) xB_122 dX11_tray_72 (by decide) rfl (by decide) ?_
        refine v_aload_n (n := 76) xB_122 dX11_tray_75 rfl rfl ?_
        refine v_gf_s (n := 79) (kz := 4) xB_122 dX11_tray_76 xO_122 fl_11_23 fg_11_4 (sh_81 _ _ _) rfl st_81_4 rfl ?_
        refine v_iconst (n := 80) xB_122 dX11_tray_79 ⟨by decide, by decide⟩ rfl ?_
        refine v_aload_n (n := 81) xB_122 dX11_tray_80 rfl rfl ?_
        refine v_gf_i (n := 84) (kz := 0) xB_122 dX11_tray_81 xO_122 fl_11_7 fg_11_0 rfl (sh_81 _ _ _) rfl rfl ?_
        refine v_imul (n := 85) xB_122 dX11_tray_84 (by first | omega | (simp only [sA_same, sA_s, ud_s, Int.reduceEq, if_true, if_false, ite_true, ite_false, ↓reduceIte, and_true, true_and, eq_self, Int.add_zero, Int.reduceAdd]; omega) | (simp (disch := omega) only [sA_same, sA_ne, ud_eq, ud_ne, Int.add_zero, Int.reduceAdd]; omega)) rfl ?_
        refine v_iload_n (n := 86) xB_122 dX11_tray_85 rfl rfl ?_
        refine v_iadd (n := 87) xB_122 dX11_tray_86 (by first | omega | (simp only [sA_same, sA_s, ud_s, Int.reduceEq, if_true, if_false, ite_true, ite_false, ↓reduceIte, and_true, true_and, eq_self, Int.add_zero, Int.reduceAdd]; omega) | (simp (disch := omega) only [sA_same, sA_ne, ud_eq, ud_ne, Int.add_zero, Int.reduceAdd]; omega)) rfl ?_
        refine v_iconst (n := 88) xB_122 dX11_tray_87 ⟨by decide, by decide⟩ rfl ?_
        refine v_iastore (n := 89) (lz := 20) xB_122 dX11_tray_88 (sh_85 _ _ _) (by decide) rfl (by first | omega | (simp only [sA_same, sA_s, ud_s, Int.reduceEq, if_true, if_false, ite_true, ite_false, ↓reduceIte, and_true, true_and, eq_self, Int.add_zero, Int.reduceAdd]; omega) | (simp (disch := omega) only [sA_same, sA_ne, ud_eq, ud_ne, Int.add_zero, Int.reduceAdd]; omega)) rfl ?_
        (try simp (disch := omega) only [sA_same, sA_ne, sA_sA, sA_sr, sB_s, ud_eq, ud_ne, ud_ud, ud_sr, uB_s, Int.add_zero, Int.reduceAdd])
        refine v_iinc3 (n := 92) xB_122 dX11_tray_89 rfl (by first | omega | (simp only [sA_same, sA_s, ud_s, Int.reduceEq, if_true, if_false, ite_true, ite_false, ↓reduceIte, and_true, true_and, eq_self, Int.add_zero, Int.reduceAdd]; omega) | (simp (disch := omega) only [sA_same, sA_ne, ud_eq, ud_ne, Int.add_zero, Int.reduceAdd]; omega)) rfl ?_
        refine v_goto (t := 70) xB_122 dX11_tray_92 (by decide) rfl ?_
        refine v_iload_n (n := 71) xB_122 dX11_tray_70 rfl rfl ?_
        refine v_iconst (n := 72) xB_122 dX11_tray_71 ⟨by decide, by decide⟩ rfl ?_
        refine v_ic_ge_n (n := 75) xB_122 dX11_tray_72 (by decide) rfl (by decide) ?_
        refine v_aload_n (n := 76) xB_122 dX11_tray_75 rfl rfl ?_
        refine v_gf_s (n := 79) (kz := 4) xB_122 dX11_tray_76 xO_122 fl_11_23 fg_11_4 (sh_81 _ _ _) rfl st_81_4 rfl ?_
        refine v_iconst (n := 80) xB_122 dX11_tray_79 ⟨by decide, by decide⟩ rfl ?_
        refine v_aload_n (n := 81) xB_122 dX11_tray_80 rfl rfl ?_
        refine v_gf_i (n := 84) (kz := 0) xB_122 dX11_tray_81 xO_122 fl_11_7 fg_11_0 rfl (sh_81 _ _ _) rfl rfl ?_
        refine v_imul (n := 85) xB_122 dX11_tray_84 (by first | omega | (simp only [sA_same, sA_s, ud_s, Int.reduceEq, if_true, if_false, ite_true, ite_false, ↓reduceIte, and_true, true_and, eq_self, Int.add_zero, Int.reduceAdd]; omega) | (simp (disch := omega) only [sA_same, sA_ne, ud_eq, ud_ne, Int.add_zero, Int.reduceAdd]; omega)) rfl ?_
        refine v_iload_n (n := 86) xB_122 dX11_tray_85 rfl rfl ?_
        refine v_iadd (n := 87) xB_122 dX11_tray_86 (by first | omega | (simp only [sA_same, sA_s, ud_s, Int.reduceEq, if_true, if_false, ite_true, ite_false, ↓reduceIte, and_true, true_and, eq_self, Int.add_zero, Int.reduceAdd]; omega) | (simp (disch := omega) only [sA_same, sA_ne, ud_eq, ud_ne, Int.add_zero, Int.reduceAdd]; omega)) rfl ?_
        refine v_iconst (n := 88) xB_122 dX11_tray_87 ⟨by decide, by decide⟩ rfl ?_
        refine v_iastore (n := 89) (lz := 20) xB_122 dX11_tray_88 (sh_85 _ _ _) (by decide) rfl (by first | omega | (simp only [sA_same, sA_s, ud_s, Int.reduceEq, if_true, if_false, ite_true, ite_false, ↓reduceIte, and_true, true_and, eq_self, Int.add_zero, Int.reduceAdd]; omega) | (simp (disch := omega) only [sA_same, sA_ne, ud_eq, ud_ne, Int.add_zero, Int.reduceAdd]; omega)) rfl ?_
        (try simp (disch := omega) only [sA_same, sA_ne, sA_sA, sA_sr, sB_s, ud_eq, ud_ne, ud_ud, ud_sr, uB_s, Int.add_zero, Int.reduceAdd])
        refine v_iinc3 (n := 92) xB_122 dX11_tray_89 rfl (by first | omega | (simp only [sA_same, sA_s, ud_s, Int.reduceEq, if_true, if_false, ite_true, ite_false, ↓reduceIte, and_true, true_and, eq_self, Int.add_zero, Int.reduceAdd]; omega) | (simp (disch := omega) only [sA_same, sA_ne, ud_eq, ud_ne, Int.add_zero, Int.reduceAdd]; omega)) rfl ?_
        refine v_goto (t := 70) xB_122 dX11_tray_92 (by decide) rfl ?_
        refine v_iload_n (n := 71) xB_122 dX11_tray_70 rfl rfl ?_
        refine v_iconst (n := 72) xB_122 dX11_tray_71 ⟨by decide, by decide⟩ rfl ?_
        refine v_ic_ge_n (n := 75) xB_122 dX11_tray_72 (by decide) rfl (by decide) ?_
        refine v_aload_n (n := 76) xB_122 dX11_tray_75 rfl rfl ?_
        refine v_gf_s (n := 79) (kz := 4) xB_122 dX11_tray_76 xO_122 fl_11_23 fg_11_4 (sh_81 _ _ _) rfl st_81_4 rfl ?_
        refine v_iconst (n := 80) xB_122 dX11_tray_79 ⟨by decide, by decide⟩ rfl ?_
        refine v_aload_n (n := 81) xB_122 dX11_tray_80 rfl rfl ?_
        refine v_gf_i (n := 84) (kz := 0) xB_122 dX11_tray_81 xO_122 fl_11_7 fg_11_0 rfl (sh_81 _ _ _) rfl rfl ?_
        refine v_imul (n := 85) xB_122 dX11_tray_84 (by first | omega | (simp only [sA_same, sA_s, ud_s, Int.reduceEq, if_true, if_false, ite_true, ite_false, ↓reduceIte, and_true, true_and, eq_self, Int.add_zero, Int.reduceAdd]; omega) | (simp (disch := omega) only [sA_same, sA_ne, ud_eq, ud_ne, Int.add_zero, Int.reduceAdd]; omega)) rfl ?_
        refine v_iload_n (n := 86) xB_122 dX11_tray_85 rfl rfl ?_
        refine v_iadd (n := 87) xB_122 dX11_tray_86 (by first | omega | (simp only [sA_same, sA_s, ud_s, Int.reduceEq, if_true, if_false, ite_true, ite_false, ↓reduceIte, and_true, true_and, eq_self, Int.add_zero, Int.reduceAdd]; omega) | (simp (disch := omega) only [sA_same, sA_ne, ud_eq, ud_ne, Int.add_zero, Int.reduceAdd]; omega)) rfl ?_
        refine v_iconst (n := 88) xB_122 dX11_tray_87 ⟨by decide, by decide⟩ rfl ?_
        refine v_iastore (n := 89) (lz := 20) xB_122 dX11_tray_88 (sh_85 _ _ _) (by decide) rfl (by first | omega | (simp only [sA_same, sA_s, ud_s, Int.reduceEq, if_true, if_false, ite_true, ite_false, ↓reduceIte, and_true, true_and, eq_self, Int.add_zero, Int.reduceAdd]; omega) | (simp (disch := omega) only [sA_same, sA_ne, ud_eq, ud_ne, Int.add_zero, Int.reduceAdd]; omega)) rfl ?_
        (try simp (disch := omega) only [sA_same, sA_ne, sA_sA, sA_sr, sB_s, ud_eq, ud_ne, ud_ud, ud_sr, uB_s, Int.add_zero, Int.reduceAdd])
        refine v_iinc3 (n := 92) xB_122 dX11_tray_89 rfl (by first | omega | (simp only [sA_same, sA_s, ud_s, Int.reduceEq, if_true, if_false, ite_true, ite_false, ↓reduceIte, and_true, true_and, eq_self, Int.add_zero, Int.reduceAdd]; omega) | (simp (disch := omega) only [sA_same, sA_ne, ud_eq, ud_ne, Int.add_zero, Int.reduceAdd]; omega)) rfl ?_
        refine v_goto (t := 70) xB_122 dX11_tray_92 (by decide) rfl ?_
        refine v_iload_n (n := 71) xB_122 dX11_tray_70 rfl rfl ?_
        refine v_iconst (n := 72) xB_122 dX11_tray_71 ⟨by decide, by decide⟩ rfl ?_
        refine v_ic_ge_y (t := 95) xB_122 dX11_tray_72 (by decide) rfl (by decide) ?_
        refine v_aload_n (n := 96) xB_122 dX11_tray_95 rfl rfl ?_
        refine v_dup (n := 97) xB_122 dX11_tray_96 rfl rfl ?_
        refine v_gf_i (n := 100) (kz := 0) xB_122 dX11_tray_97 xO_122 fl_11_7 fg_11_0 rfl (sh_81 _ _ _) rfl rfl ?_
        refine v_iconst (n := 101) xB_122 dX11_tray_100 ⟨by decide, by decide⟩ rfl ?_
        refine v_iadd (n := 102) xB_122 dX11_tray_101 (by first | omega | (simp only [sA_same, sA_s, ud_s, Int.reduceEq, if_true, if_false, ite_true, ite_false, ↓reduceIte, and_true, true_and, eq_self, Int.add_zero, Int.reduceAdd]; omega) | (simp (disch := omega) only [sA_same, sA_ne, ud_eq, ud_ne, Int.add_zero, Int.reduceAdd]; omega)) rfl ?_
        refine v_pf_i (n := 105) (kz := 0) xB_122 dX11_tray_102 xO_122 fl_11_7 fg_11_0 (Or.inl fn_11_0) (sh_81 _ _ _) (by decide) rfl rfl ?_
        (try simp (disch := omega) only [sA_same, sA_ne, sA_sA, sA_sr, sB_s, ud_eq, ud_ne, ud_ud, ud_sr, uB_s, Int.add_zero, Int.reduceAdd])
        refine v_aload_n (n := 106) xB_122 dX11_tray_105 rfl rfl ?_
        refine v_gf_i (n := 109) (kz := 0) xB_122 dX11_tray_106 xO_122 fl_11_7 fg_11_0 rfl (sh_81 _ _ _) rfl rfl ?_
        refine v_iconst (n := 110) xB_122 dX11_tray_109 ⟨by decide, by decide⟩ rfl ?_
        refine v_isub (n := 111) xB_122 dX11_tray_110 (by first | omega | (simp only [sA_same, sA_s, ud_s, Int.reduceEq, if_true, if_false, ite_true, ite_false, ↓reduceIte, and_true, true_and, eq_self, Int.add_zero, Int.reduceAdd]; omega) | (simp (disch := omega) only [sA_same, sA_ne, ud_eq, ud_ne, Int.add_zero, Int.reduceAdd]; omega)) rfl ?_
        refine v_ireturn0 xB_122 dX11_tray_111 xK_122 ?_
        first | exact o1 (by omega) | exact o2 (by omega) | exact o3 (by omega) | ((try simp (disch := omega) only [sA_same, sA_ne, sA_sA, sA_sr, sB_s, ud_eq, ud_ne, ud_ud, ud_sr, uB_s, Int.add_zero, Int.reduceAdd]); refine cast (congrArg (fun z => Q (some (.inl (m 81 0 + 1 - 1))) (setA (setA (setA (setA (setA m 81 (ud (m 81) 0 (m 81 0 + 1))) 82 (ud (m 82) (m 81 0) k)) 83 (ud (m 83) (m 81 0) n)) 84 (ud (m 84) (m 81 0) 0)) 85 z, (none, (dy, L)))) ?_) (o4 (by omega)); exact (by funext j'; simp only [ud_s, ivl]; (repeat' split) <;> first | rfl | omega))
      · (try simp (disch := omega) only [sA_same, sA_ne, sA_sA, sA_sr, sB_s, ud_eq, ud_ne, ud_ud, ud_sr, uB_s, Int.add_zero, Int.reduceAdd] at g5)
        refine v_bipush (n := 37) xB_122 dX11_tray_35 ⟨by decide, by decide⟩ rfl ?_
        refine v_ireturn0 xB_122 dX11_tray_37 xK_122 ?_
        first | exact o1 (by omega) | exact o2 (by omega) | exact o3 (by omega) | ((try simp (disch := omega) only [sA_same, sA_ne, sA_sA, sA_sr, sB_s, ud_eq, ud_ne, ud_ud, ud_sr, uB_s, Int.add_zero, Int.reduceAdd]); refine cast (congrArg (fun z => Q (some (.inl (m 81 0 + 1 - 1))) (setA (setA (setA (setA (setA m 81 (ud (m 81) 0 (m 81 0 + 1))) 82 (ud (m 82) (m 81 0) k)) 83 (ud (m 83) (m 81 0) n)) 84 (ud (m 84) (m 81 0) 0)) 85 z, (none, (dy, L)))) ?_) (o4 (by omega)); exact (by funext j'; simp only [ud_s, ivl]; (repeat' split) <;> first | rfl | omega))
    · (try simp (disch := omega) only [sA_same, sA_ne, sA_sA, sA_sr, sB_s, ud_eq, ud_ne, ud_ud, ud_sr, uB_s, Int.add_zero, Int.reduceAdd] at g4)
      refine v_if_ne_n (n := 24) xB_122 dX11_tray_21 (by decide) rfl (by decide) ?_
      refine v_bipush (n := 26) xB_122 dX11_tray_24 ⟨by decide, by decide⟩ rfl ?_
      refine v_ireturn0 xB_122 dX11_tray_26 xK_122 ?_
      first | exact o1 (by omega) | exact o2 (by omega) | exact o3 (by omega) | ((try simp (disch := omega) only [sA_same, sA_ne, sA_sA, sA_sr, sB_s, ud_eq, ud_ne, ud_ud, ud_sr, uB_s, Int.add_zero, Int.reduceAdd]); refine cast (congrArg (fun z => Q (some (.inl (m 81 0 + 1 - 1))) (setA (setA (setA (setA (setA m 81 (ud (m 81) 0 (m 81 0 + 1))) 82 (ud (m 82) (m 81 0) k)) 83 (ud (m 83) (m 81 0) n)) 84 (ud (m 84) (m 81 0) 0)) 85 z, (none, (dy, L)))) ?_) (o4 (by omega)); exact (by funext j'; simp only [ud_s, ivl]; (repeat' split) <;> first | rfl | omega))
  · (try simp (disch := omega) only [sA_same, sA_ne, sA_sA, sA_sr, sB_s, ud_eq, ud_ne, ud_ud, ud_sr, uB_s, Int.add_zero, Int.reduceAdd] at g2)
    refine v_if_ne_n (n := 11) xB_122 dX11_tray_8 (by decide) rfl (by decide) ?_
    refine v_iconst (n := 12) xB_122 dX11_tray_11 ⟨by decide, by decide⟩ rfl ?_
    refine v_ireturn0 xB_122 dX11_tray_12 xK_122 ?_
    first | exact o1 (by omega) | exact o2 (by omega) | exact o3 (by omega) | ((try simp (disch := omega) only [sA_same, sA_ne, sA_sA, sA_sr, sB_s, ud_eq, ud_ne, ud_ud, ud_sr, uB_s, Int.add_zero, Int.reduceAdd]); refine cast (congrArg (fun z => Q (some (.inl (m 81 0 + 1 - 1))) (setA (setA (setA (setA (setA m 81 (ud (m 81) 0 (m 81 0 + 1))) 82 (ud (m 82) (m 81 0) k)) 83 (ud (m 83) (m 81 0) n)) 84 (ud (m 84) (m 81 0) 0)) 85 z, (none, (dy, L)))) ?_) (o4 (by omega)); exact (by funext j'; simp only [ud_s, ivl]; (repeat' split) <;> first | rfl | omega))
set_option maxHeartbeats 1000000 in
theorem c_of {d : Nat} {t w : Int} {m : PM} {dy : List (Nat × Nat)} {L : Nat} {Q : Option PV → PS → Prop} (hd : 3 ≤ d) (hT : 0 ≤ m 81 0 ∧ m 81 0 ≤ 5) (o1 : (¬ (0 ≤ t ∧ t < m 81 0) ∨ ¬ (0 ≤ w ∧ w ≤ 2)) → Q (some (.inl (-1))) (m, (none, (dy, L)))) (o2 : ((0 ≤ t ∧ t < m 81 0) ∧ w = 0) → Q (some (.inl (m 82 t))) (m, (none, (dy, L)))) (o3 : ((0 ≤ t ∧ t < m 81 0) ∧ w = 1) → Q (some (.inl (m 83 t))) (m, (none, (dy, L)))) (o4 : ((0 ≤ t ∧ t < m 81 0) ∧ w = 2) → Q (some (.inl (m 84 t))) (m, (none, (dy, L)))) : C d 123 [.inr (.inr 81), .inl t, .inl w] (m, (none, (dy, L))) Q := by
  refine C_go (k := 2) hd xL_123 (fun d hd => ?_)
  show V d 123 (0, ([some (.inr (.inr 81)), some (.inl t), some (.inl w)], ([], (m, (none, (dy, L)))))) Q
  refine v_aload_n (n := 1) xB_123 dX11_of_0 rfl rfl ?_
  refine v_iload_n (n := 2) xB_123 dX11_of_1 rfl rfl ?_
  refine v_call_v (n := 5) xB_123 dX11_of_2 xO_123 iv_11_225 rfl (sh_81 _ _ _) rfl rfl rfl ?_
  refine c_isTray (by omega) (by first | omega | (simp only [sA_same, sA_s, ud_s, Int.reduceEq, if_true, if_false, ite_true, ite_false, ↓reduceIte, and_true, true_and, eq_self, Int.add_zero, Int.reduceAdd]; omega) | (simp (disch := omega) only [sA_same, sA_ne, ud_eq, ud_ne, Int.add_zero, Int.reduceAdd]; omega)) (fun g1 => ?_) (fun g2 => ?_)
  · refine v_if_ne_y (t := 10) xB_123 dX11_of_5 (by decide) rfl (by decide) ?_
    refine v_iload_n (n := 11) xB_123 dX11_of_10 rfl rfl ?_
    refine v_tsw xB_123 dX11_of_11 rfl ?_
    refine ts_c (lo' := 1) rfl (fun g3 => ?_) (fun g3 => ?_)
    · refine jm_go (t := 36) (by decide) rfl ?_
      refine v_aload_n (n := 37) xB_123 dX11_of_36 rfl rfl ?_
      refine v_gf_s (n := 40) (kz := 1) xB_123 dX11_of_37 xO_123 fl_11_13 fg_11_1 (sh_81 _ _ _) rfl st_81_1 rfl ?_
      refine v_iload_n (n := 41) xB_123 dX11_of_40 rfl rfl ?_
      refine v_iaload (n := 42) (lz := 5) xB_123 dX11_of_41 (sh_82 _ _ _) rfl (by first | omega | (simp only [sA_same, sA_s, ud_s, Int.reduceEq, if_true, if_false, ite_true, ite_false, ↓reduceIte, and_true, true_and, eq_self, Int.add_zero, Int.reduceAdd]; omega) | (simp (disch := omega) only [sA_same, sA_ne, ud_eq, ud_ne, Int.add_zero, Int.reduceAdd]; omega)) rfl ?_
      refine v_ireturn0 xB_123 dX11_of_42 xK_123 ?_
      first | exact o1 (by first | omega | (simp only [sA_same, sA_s, ud_s, Int.reduceEq, if_true, if_false, ite_true, ite_false, ↓reduceIte, and_true, true_and, eq_self, Int.add_zero, Int.reduceAdd]; omega) | (simp (disch := omega) only [sA_same, sA_ne, ud_eq, ud_ne, Int.add_zero, Int.reduceAdd]; omega)) | exact o2 (by first | omega | (simp only [sA_same, sA_s, ud_s, Int.reduceEq, if_true, if_false, ite_true, ite_false, ↓reduceIte, and_true, true_and, eq_self, Int.add_zero, Int.reduceAdd]; omega) | (simp (disch := omega) only [sA_same, sA_ne, ud_eq, ud_ne, Int.add_zero, Int.reduceAdd]; omega)) | exact o3 (by first | omega | (simp only [sA_same, sA_s, ud_s, Int.reduceEq, if_true, if_false, ite_true, ite_false, ↓reduceIte, and_true, true_and, eq_self, Int.add_zero, Int.reduceAdd]; omega) | (simp (disch := omega) only [sA_same, sA_ne, ud_eq, ud_ne, Int.add_zero, Int.reduceAdd]; omega)) | exact o4 (by first | omega | (simp only [sA_same, sA_s, ud_s, Int.reduceEq, if_true, if_false, ite_true, ite_false, ↓reduceIte, and_true, true_and, eq_self, Int.add_zero, Int.reduceAdd]; omega) | (simp (disch := omega) only [sA_same, sA_ne, ud_eq, ud_ne, Int.add_zero, Int.reduceAdd]; omega))
    refine ts_c (lo' := 2) rfl (fun g4 => ?_) (fun g4 => ?_)
    · refine jm_go (t := 43) (by decide) rfl ?_
      refine v_aload_n (n := 44) xB_123 dX11_of_43 rfl rfl ?_
      refine v_gf_s (n := 47) (kz := 2) xB_123 dX11_of_44 xO_123 fl_11_17 fg_11_2 (sh_81 _ _ _) rfl st_81_2 rfl ?_
      refine v_iload_n (n := 48) xB_123 dX11_of_47 rfl rfl ?_
      refine v_iaload (n := 49) (lz := 5) xB_123 dX11_of_48 (sh_83 _ _ _) rfl (by first | omega | (simp only [sA_same, sA_s, ud_s, Int.reduceEq, if_true, if_false, ite_true, ite_false, ↓reduceIte, and_true, true_and, eq_self, Int.add_zero, Int.reduceAdd]; omega) | (simp (disch := omega) only [sA_same, sA_ne, ud_eq, ud_ne, Int.add_zero, Int.reduceAdd]; omega)) rfl ?_
      refine v_ireturn0 xB_123 dX11_of_49 xK_123 ?_
      first | exact o1 (by first | omega | (simp only [sA_same, sA_s, ud_s, Int.reduceEq, if_true, if_false, ite_true, ite_false, ↓reduceIte, and_true, true_and, eq_self, Int.add_zero, Int.reduceAdd]; omega) | (simp (disch := omega) only [sA_same, sA_ne, ud_eq, ud_ne, Int.add_zero, Int.reduceAdd]; omega)) | exact o2 (by first | omega | (simp only [sA_same, sA_s, ud_s, Int.reduceEq, if_true, if_false, ite_true, ite_false, ↓reduceIte, and_true, true_and, eq_self, Int.add_zero, Int.reduceAdd]; omega) | (simp (disch := omega) only [sA_same, sA_ne, ud_eq, ud_ne, Int.add_zero, Int.reduceAdd]; omega)) | exact o3 (by first | omega | (simp only [sA_same, sA_s, ud_s, Int.reduceEq, if_true, if_false, ite_true, ite_false, ↓reduceIte, and_true, true_and, eq_self, Int.add_zero, Int.reduceAdd]; omega) | (simp (disch := omega) only [sA_same, sA_ne, ud_eq, ud_ne, Int.add_zero, Int.reduceAdd]; omega)) | exact o4 (by first | omega | (simp only [sA_same, sA_s, ud_s, Int.reduceEq, if_true, if_false, ite_true, ite_false, ↓reduceIte, and_true, true_and, eq_self, Int.add_zero, Int.reduceAdd]; omega) | (simp (disch := omega) only [sA_same, sA_ne, ud_eq, ud_ne, Int.add_zero, Int.reduceAdd]; omega))
    refine ts_c (lo' := 3) rfl (fun g5 => ?_) (fun g5 => ?_)
    · refine jm_go (t := 50) (by decide) rfl ?_
      refine v_aload_n (n := 51) xB_123 dX11_of_50 rfl rfl ?_
      refine v_gf_s (n := 54) (kz := 3) xB_123 dX11_of_51 xO_123 fl_11_20 fg_11_3 (sh_81 _ _ _) rfl st_81_3 rfl ?_
      refine v_iload_n (n := 55) xB_123 dX11_of_54 rfl rfl ?_
      refine v_iaload (n := 56) (lz := 5) xB_123 dX11_of_55 (sh_84 _ _ _) rfl (by first | omega | (simp only [sA_same, sA_s, ud_s, Int.reduceEq, if_true, if_false, ite_true, ite_false, ↓reduceIte, and_true, true_and, eq_self, Int.add_zero, Int.reduceAdd]; omega) | (simp (disch := omega) only [sA_same, sA_ne, ud_eq, ud_ne, Int.add_zero, Int.reduceAdd]; omega)) rfl ?_
      refine v_ireturn0 xB_123 dX11_of_56 xK_123 ?_
      first | exact o1 (by first | omega | (simp only [sA_same, sA_s, ud_s, Int.reduceEq, if_true, if_false, ite_true, ite_false, ↓reduceIte, and_true, true_and, eq_self, Int.add_zero, Int.reduceAdd]; omega) | (simp (disch := omega) only [sA_same, sA_ne, ud_eq, ud_ne, Int.add_zero, Int.reduceAdd]; omega)) | exact o2 (by first | omega | (simp only [sA_same, sA_s, ud_s, Int.reduceEq, if_true, if_false, ite_true, ite_false, ↓reduceIte, and_true, true_and, eq_self, Int.add_zero, Int.reduceAdd]; omega) | (simp (disch := omega) only [sA_same, sA_ne, ud_eq, ud_ne, Int.add_zero, Int.reduceAdd]; omega)) | exact o3 (by first | omega | (simp only [sA_same, sA_s, ud_s, Int.reduceEq, if_true, if_false, ite_true, ite_false, ↓reduceIte, and_true, true_and, eq_self, Int.add_zero, Int.reduceAdd]; omega) | (simp (disch := omega) only [sA_same, sA_ne, ud_eq, ud_ne, Int.add_zero, Int.reduceAdd]; omega)) | exact o4 (by first | omega | (simp only [sA_same, sA_s, ud_s, Int.reduceEq, if_true, if_false, ite_true, ite_false, ↓reduceIte, and_true, true_and, eq_self, Int.add_zero, Int.reduceAdd]; omega) | (simp (disch := omega) only [sA_same, sA_ne, ud_eq, ud_ne, Int.add_zero, Int.reduceAdd]; omega))
    refine ts_n ?_
    refine jm_go (t := 57) (by decide) rfl ?_
    refine v_iconst (n := 58) xB_123 dX11_of_57 ⟨by decide, by decide⟩ rfl ?_
    refine v_ireturn0 xB_123 dX11_of_58 xK_123 ?_
    first | exact o1 (by first | omega | (simp only [sA_same, sA_s, ud_s, Int.reduceEq, if_true, if_false, ite_true, ite_false, ↓reduceIte, and_true, true_and, eq_self, Int.add_zero, Int.reduceAdd]; omega) | (simp (disch := omega) only [sA_same, sA_ne, ud_eq, ud_ne, Int.add_zero, Int.reduceAdd]; omega)) | exact o2 (by first | omega | (simp only [sA_same, sA_s, ud_s, Int.reduceEq, if_true, if_false, ite_true, ite_false, ↓reduceIte, and_true, true_and, eq_self, Int.add_zero, Int.reduceAdd]; omega) | (simp (disch := omega) only [sA_same, sA_ne, ud_eq, ud_ne, Int.add_zero, Int.reduceAdd]; omega)) | exact o3 (by first | omega | (simp only [sA_same, sA_s, ud_s, Int.reduceEq, if_true, if_false, ite_true, ite_false, ↓reduceIte, and_true, true_and, eq_self, Int.add_zero, Int.reduceAdd]; omega) | (simp (disch := omega) only [sA_same, sA_ne, ud_eq, ud_ne, Int.add_zero, Int.reduceAdd]; omega)) | exact o4 (by first | omega | (simp only [sA_same, sA_s, ud_s, Int.reduceEq, if_true, if_false, ite_true, ite_false, ↓reduceIte, and_true, true_and, eq_self, Int.add_zero, Int.reduceAdd]; omega) | (simp (disch := omega) only [sA_same, sA_ne, ud_eq, ud_ne, Int.add_zero, Int.reduceAdd]; omega))
  · refine v_if_ne_n (n := 8) xB_123 dX11_of_5 (by decide) rfl (by decide) ?_
    refine v_iconst (n := 9) xB_123 dX11_of_8 ⟨by decide, by decide⟩ rfl ?_
    refine v_ireturn0 xB_123 dX11_of_9 xK_123 ?_
    first | exact o1 (by first | omega | (simp only [sA_same, sA_s, ud_s, Int.reduceEq, if_true, if_false, ite_true, ite_false, ↓reduceIte, and_true, true_and, eq_self, Int.add_zero, Int.reduceAdd]; omega) | (simp (disch := omega) only [sA_same, sA_ne, ud_eq, ud_ne, Int.add_zero, Int.reduceAdd]; omega)) | exact o2 (by first | omega | (simp only [sA_same, sA_s, ud_s, Int.reduceEq, if_true, if_false, ite_true, ite_false, ↓reduceIte, and_true, true_and, eq_self, Int.add_zero, Int.reduceAdd]; omega) | (simp (disch := omega) only [sA_same, sA_ne, ud_eq, ud_ne, Int.add_zero, Int.reduceAdd]; omega)) | exact o3 (by first | omega | (simp only [sA_same, sA_s, ud_s, Int.reduceEq, if_true, if_false, ite_true, ite_false, ↓reduceIte, and_true, true_and, eq_self, Int.add_zero, Int.reduceAdd]; omega) | (simp (disch := omega) only [sA_same, sA_ne, ud_eq, ud_ne, Int.add_zero, Int.reduceAdd]; omega)) | exact o4 (by first | omega | (simp only [sA_same, sA_s, ud_s, Int.reduceEq, if_true, if_false, ite_true, ite_false, ↓reduceIte, and_true, true_and, eq_self, Int.add_zero, Int.reduceAdd]; omega) | (simp (disch := omega) only [sA_same, sA_ne, ud_eq, ud_ne, Int.add_zero, Int.reduceAdd]; omega))
set_option maxHeartbeats 1000000 in
theorem c_row {d : Nat} {t i n : Int} {m : PM} {dy : List (Nat × Nat)} {L : Nat} {Q : Option PV → PS → Prop} (hd : 3 ≤ d) (hT : 0 ≤ m 81 0 ∧ m 81 0 ≤ 5) (o1 : (¬ ((0 ≤ t ∧ t < m 81 0) ∧ 0 ≤ i ∧ i ≤ 3)) → Q (some (.inl (-1))) (m, (none, (dy, L)))) (o2 : (((0 ≤ t ∧ t < m 81 0) ∧ 0 ≤ i ∧ i ≤ 3) ∧ ¬ (0 ≤ n ∧ n ≤ 9)) → Q (some (.inl (-2))) (m, (none, (dy, L)))) (o3 : (((0 ≤ t ∧ t < m 81 0) ∧ 0 ≤ i ∧ i ≤ 3) ∧ (0 ≤ n ∧ n ≤ 9) ∧ m 82 t ≠ 6) → Q (some (.inl (-3))) (m, (none, (dy, L)))) (o4 : (((0 ≤ t ∧ t < m 81 0) ∧ 0 ≤ i ∧ i ≤ 3) ∧ (0 ≤ n ∧ n ≤ 9) ∧ m 82 t = 6) → Q (some (.inl (m 85 (4 * t + i)))) (setA m 85 (ud (m 85) (4 * t + i) n), (none, (dy, L)))) : C d 124 [.inr (.inr 81), .inl t, .inl i, .inl n] (m, (none, (dy, L))) Q := by
  refine C_go (k := 2) hd xL_124 (fun d hd => ?_)
  show V d 124 (0, ([some (.inr (.inr 81)), some (.inl t), some (.inl i), some (.inl n), none], ([], (m, (none, (dy, L)))))) Q
  refine v_aload_n (n := 1) xB_124 dX11_row_0 rfl rfl ?_
  refine v_iload_n (n := 2) xB_124 dX11_row_1 rfl rfl ?_
  refine v_call_v (n := 5) xB_124 dX11_row_2 xO_124 iv_11_225 rfl (sh_81 _ _ _) rfl rfl rfl ?_
  refine c_isTray (by omega) (by first | omega | (simp only [sA_same, sA_s, ud_s, Int.reduceEq, if_true, if_false, ite_true, ite_false, ↓reduceIte, and_true, true_and, eq_self, Int.add_zero, Int.reduceAdd]; omega) | (simp (disch := omega) only [sA_same, sA_ne, ud_eq, ud_ne, Int.add_zero, Int.reduceAdd]; omega)) (fun g1 => ?_) (fun g2 => ?_)
  · refine v_if_eq_n (n := 8) xB_124 dX11_row_5 (by decide) rfl (by decide) ?_
    refine v_aload_n (n := 9) xB_124 dX11_row_8 rfl rfl ?_
    refine v_iload_n (n := 10) xB_124 dX11_row_9 rfl rfl ?_
    refine v_iconst (n := 11) xB_124 dX11_row_10 ⟨by decide, by decide⟩ rfl ?_
    refine v_iconst (n := 12) xB_124 dX11_row_11 ⟨by decide, by decide⟩ rfl ?_
    refine v_call_v (n := 15) xB_124 dX11_row_12 xO_124 iv_11_221 rfl (sh_81 _ _ _) rfl rfl rfl ?_
    refine c_in (by omega)  (fun g3 => ?_) (fun g4 => ?_)
    · refine v_if_ne_y (t := 20) xB_124 dX11_row_15 (by decide) rfl (by decide) ?_
      refine v_aload_n (n := 21) xB_124 dX11_row_20 rfl rfl ?_
      refine v_iload_n (n := 22) xB_124 dX11_row_21 rfl rfl ?_
      refine v_iconst (n := 23) xB_124 dX11_row_22 ⟨by decide, by decide⟩ rfl ?_
      refine v_bipush (n := 25) xB_124 dX11_row_23 ⟨by decide, by decide⟩ rfl ?_
      refine v_call_v (n := 28) xB_124 dX11_row_25 xO_124 iv_11_221 rfl (sh_81 _ _ _) rfl rfl rfl ?_
      refine c_in (by omega)  (fun g5 => ?_) (fun g6 => ?_)
      · refine v_if_ne_y (t := 34) xB_124 dX11_row_28 (by decide) rfl (by decide) ?_
        refine v_aload_n (n := 35) xB_124 dX11_row_34 rfl rfl ?_
        refine v_gf_s (n := 38) (kz := 1) xB_124 dX11_row_35 xO_124 fl_11_13 fg_11_1 (sh_81 _ _ _) rfl st_81_1 rfl ?_
        refine v_iload_n (n := 39) xB_124 dX11_row_38 rfl rfl ?_
        refine v_iaload (n := 40) (lz := 5) xB_124 dX11_row_39 (sh_82 _ _ _) rfl (by first | omega | (simp only [sA_same, sA_s, ud_s, Int.reduceEq, if_true, if_false, ite_true, ite_false, ↓reduceIte, and_true, true_and, eq_self, Int.add_zero, Int.reduceAdd]; omega) | (simp (disch := omega) only [sA_same, sA_ne, ud_eq, ud_ne, Int.add_zero, Int.reduceAdd]; omega)) rfl ?_
        refine v_bipush (n := 42) xB_124 dX11_row_40 ⟨by decide, by decide⟩ rfl ?_
        refine v_ic_eq (t := 48) (n := 45) xB_124 dX11_row_42 (by decide) rfl rfl (fun g7 => ?_) (fun g7 => ?_)
        · refine v_aload_n (n := 49) xB_124 dX11_row_48 rfl rfl ?_
          refine v_gf_s (n := 52) (kz := 4) xB_124 dX11_row_49 xO_124 fl_11_23 fg_11_4 (sh_81 _ _ _) rfl st_81_4 rfl ?_
          refine v_iconst (n := 53) xB_124 dX11_row_52 ⟨by decide, by decide⟩ rfl ?_
          refine v_iload_n (n := 54) xB_124 dX11_row_53 rfl rfl ?_
          refine v_imul (n := 55) xB_124 dX11_row_54 (by first | omega | (simp only [sA_same, sA_s, ud_s, Int.reduceEq, if_true, if_false, ite_true, ite_false, ↓reduceIte, and_true, true_and, eq_self, Int.add_zero, Int.reduceAdd]; omega) | (simp (disch := omega) only [sA_same, sA_ne, ud_eq, ud_ne, Int.add_zero, Int.reduceAdd]; omega)) rfl ?_
          refine v_iload_n (n := 56) xB_124 dX11_row_55 rfl rfl ?_
          refine v_iadd (n := 57) xB_124 dX11_row_56 (by first | omega | (simp only [sA_same, sA_s, ud_s, Int.reduceEq, if_true, if_false, ite_true, ite_false, ↓reduceIte, and_true, true_and, eq_self, Int.add_zero, Int.reduceAdd]; omega) | (simp (disch := omega) only [sA_same, sA_ne, ud_eq, ud_ne, Int.add_zero, Int.reduceAdd]; omega)) rfl ?_
          refine v_iaload (n := 58) (lz := 20) xB_124 dX11_row_57 (sh_85 _ _ _) rfl (by first | omega | (simp only [sA_same, sA_s, ud_s, Int.reduceEq, if_true, if_false, ite_true, ite_false, ↓reduceIte, and_true, true_and, eq_self, Int.add_zero, Int.reduceAdd]; omega) | (simp (disch := omega) only [sA_same, sA_ne, ud_eq, ud_ne, Int.add_zero, Int.reduceAdd]; omega)) rfl ?_
          refine v_istore4 (n := 60) xB_124 dX11_row_58 rfl rfl ?_
          refine v_aload_n (n := 61) xB_124 dX11_row_60 rfl rfl ?_
          refine v_gf_s (n := 64) (kz := 4) xB_124 dX11_row_61 xO_124 fl_11_23 fg_11_4 (sh_81 _ _ _) rfl st_81_4 rfl ?_
          refine v_iconst (n := 65) xB_124 dX11_row_64 ⟨by decide, by decide⟩ rfl ?_
          refine v_iload_n (n := 66) xB_124 dX11_row_65 rfl rfl ?_
          refine v_imul (n := 67) xB_124 dX11_row_66 (by first | omega | (simp only [sA_same, sA_s, ud_s, Int.reduceEq, if_true, if_false, ite_true, ite_false, ↓reduceIte, and_true, true_and, eq_self, Int.add_zero, Int.reduceAdd]; omega) | (simp (disch := omega) only [sA_same, sA_ne, ud_eq, ud_ne, Int.add_zero, Int.reduceAdd]; omega)) rfl ?_
          refine v_iload_n (n := 68) xB_124 dX11_row_67 rfl rfl ?_
          refine v_iadd (n := 69) xB_124 dX11_row_68 (by first | omega | (simp only [sA_same, sA_s, ud_s, Int.reduceEq, if_true, if_false, ite_true, ite_false, ↓reduceIte, and_true, true_and, eq_self, Int.add_zero, Int.reduceAdd]; omega) | (simp (disch := omega) only [sA_same, sA_ne, ud_eq, ud_ne, Int.add_zero, Int.reduceAdd]; omega)) rfl ?_
          refine v_iload_n (n := 70) xB_124 dX11_row_69 rfl rfl ?_
          refine v_iastore (n := 71) (lz := 20) xB_124 dX11_row_70 (sh_85 _ _ _) (by decide) rfl (by first | omega | (simp only [sA_same, sA_s, ud_s, Int.reduceEq, if_true, if_false, ite_true, ite_false, ↓reduceIte, and_true, true_and, eq_self, Int.add_zero, Int.reduceAdd]; omega) | (simp (disch := omega) only [sA_same, sA_ne, ud_eq, ud_ne, Int.add_zero, Int.reduceAdd]; omega)) rfl ?_
          refine v_iload (n := 73) xB_124 dX11_row_71 rfl rfl ?_
          refine v_ireturn0 xB_124 dX11_row_73 xK_124 ?_
          first | exact o1 (by first | omega | (simp only [sA_same, sA_s, ud_s, Int.reduceEq, if_true, if_false, ite_true, ite_false, ↓reduceIte, and_true, true_and, eq_self, Int.add_zero, Int.reduceAdd]; omega) | (simp (disch := omega) only [sA_same, sA_ne, ud_eq, ud_ne, Int.add_zero, Int.reduceAdd]; omega)) | exact o2 (by first | omega | (simp only [sA_same, sA_s, ud_s, Int.reduceEq, if_true, if_false, ite_true, ite_false, ↓reduceIte, and_true, true_and, eq_self, Int.add_zero, Int.reduceAdd]; omega) | (simp (disch := omega) only [sA_same, sA_ne, ud_eq, ud_ne, Int.add_zero, Int.reduceAdd]; omega)) | exact o3 (by first | omega | (simp only [sA_same, sA_s, ud_s, Int.reduceEq, if_true, if_false, ite_true, ite_false, ↓reduceIte, and_true, true_and, eq_self, Int.add_zero, Int.reduceAdd]; omega) | (simp (disch := omega) only [sA_same, sA_ne, ud_eq, ud_ne, Int.add_zero, Int.reduceAdd]; omega)) | exact o4 (by first | omega | (simp only [sA_same, sA_s, ud_s, Int.reduceEq, if_true, if_false, ite_true, ite_false, ↓reduceIte, and_true, true_and, eq_self, Int.add_zero, Int.reduceAdd]; omega) | (simp (disch := omega) only [sA_same, sA_ne, ud_eq, ud_ne, Int.add_zero, Int.reduceAdd]; omega))
        · refine v_bipush (n := 47) xB_124 dX11_row_45 ⟨by decide, by decide⟩ rfl ?_
          refine v_ireturn0 xB_124 dX11_row_47 xK_124 ?_
          first | exact o1 (by first | omega | (simp only [sA_same, sA_s, ud_s, Int.reduceEq, if_true, if_false, ite_true, ite_false, ↓reduceIte, and_true, true_and, eq_self, Int.add_zero, Int.reduceAdd]; omega) | (simp (disch := omega) only [sA_same, sA_ne, ud_eq, ud_ne, Int.add_zero, Int.reduceAdd]; omega)) | exact o2 (by first | omega | (simp only [sA_same, sA_s, ud_s, Int.reduceEq, if_true, if_false, ite_true, ite_false, ↓reduceIte, and_true, true_and, eq_self, Int.add_zero, Int.reduceAdd]; omega) | (simp (disch := omega) only [sA_same, sA_ne, ud_eq, ud_ne, Int.add_zero, Int.reduceAdd]; omega)) | exact o3 (by first | omega | (simp only [sA_same, sA_s, ud_s, Int.reduceEq, if_true, if_false, ite_true, ite_false, ↓reduceIte, and_true, true_and, eq_self, Int.add_zero, Int.reduceAdd]; omega) | (simp (disch := omega) only [sA_same, sA_ne, ud_eq, ud_ne, Int.add_zero, Int.reduceAdd]; omega)) | exact o4 (by first | omega | (simp only [sA_same, sA_s, ud_s, Int.reduceEq, if_true, if_false, ite_true, ite_false, ↓reduceIte, and_true, true_and, eq_self, Int.add_zero, Int.reduceAdd]; omega) | (simp (disch := omega) only [sA_same, sA_ne, ud_eq, ud_ne, Int.add_zero, Int.reduceAdd]; omega))
      · refine v_if_ne_n (n := 31) xB_124 dX11_row_28 (by decide) rfl (by decide) ?_
        refine v_bipush (n := 33) xB_124 dX11_row_31 ⟨by decide, by decide⟩ rfl ?_
        refine v_ireturn0 xB_124 dX11_row_33 xK_124 ?_
        first | exact o1 (by first | omega | (simp only [sA_same, sA_s, ud_s, Int.reduceEq, if_true, if_false, ite_true, ite_false, ↓reduceIte, and_true, true_and, eq_self, Int.add_zero, Int.reduceAdd]; omega) | (simp (disch := omega) only [sA_same, sA_ne, ud_eq, ud_ne, Int.add_zero, Int.reduceAdd]; omega)) | exact o2 (by first | omega | (simp only [sA_same, sA_s, ud_s, Int.reduceEq, if_true, if_false, ite_true, ite_false, ↓reduceIte, and_true, true_and, eq_self, Int.add_zero, Int.reduceAdd]; omega) | (simp (disch := omega) only [sA_same, sA_ne, ud_eq, ud_ne, Int.add_zero, Int.reduceAdd]; omega)) | exact o3 (by first | omega | (simp only [sA_same, sA_s, ud_s, Int.reduceEq, if_true, if_false, ite_true, ite_false, ↓reduceIte, and_true, true_and, eq_self, Int.add_zero, Int.reduceAdd]; omega) | (simp (disch := omega) only [sA_same, sA_ne, ud_eq, ud_ne, Int.add_zero, Int.reduceAdd]; omega)) | exact o4 (by first | omega | (simp only [sA_same, sA_s, ud_s, Int.reduceEq, if_true, if_false, ite_true, ite_false, ↓reduceIte, and_true, true_and, eq_self, Int.add_zero, Int.reduceAdd]; omega) | (simp (disch := omega) only [sA_same, sA_ne, ud_eq, ud_ne, Int.add_zero, Int.reduceAdd]; omega))
    · refine v_if_ne_n (n := 18) xB_124 dX11_row_15 (by decide) rfl (by decide) ?_
      refine v_iconst (n := 19) xB_124 dX11_row_18 ⟨by decide, by decide⟩ rfl ?_
      refine v_ireturn0 xB_124 dX11_row_19 xK_124 ?_
      first | exact o1 (by first | omega | (simp only [sA_same, sA_s, ud_s, Int.reduceEq, if_true, if_false, ite_true, ite_false, ↓reduceIte, and_true, true_and, eq_self, Int.add_zero, Int.reduceAdd]; omega) | (simp (disch := omega) only [sA_same, sA_ne, ud_eq, ud_ne, Int.add_zero, Int.reduceAdd]; omega)) | exact o2 (by first | omega | (simp only [sA_same, sA_s, ud_s, Int.reduceEq, if_true, if_false, ite_true, ite_false, ↓reduceIte, and_true, true_and, eq_self, Int.add_zero, Int.reduceAdd]; omega) | (simp (disch := omega) only [sA_same, sA_ne, ud_eq, ud_ne, Int.add_zero, Int.reduceAdd]; omega)) | exact o3 (by first | omega | (simp only [sA_same, sA_s, ud_s, Int.reduceEq, if_true, if_false, ite_true, ite_false, ↓reduceIte, and_true, true_and, eq_self, Int.add_zero, Int.reduceAdd]; omega) | (simp (disch := omega) only [sA_same, sA_ne, ud_eq, ud_ne, Int.add_zero, Int.reduceAdd]; omega)) | exact o4 (by first | omega | (simp only [sA_same, sA_s, ud_s, Int.reduceEq, if_true, if_false, ite_true, ite_false, ↓reduceIte, and_true, true_and, eq_self, Int.add_zero, Int.reduceAdd]; omega) | (simp (disch := omega) only [sA_same, sA_ne, ud_eq, ud_ne, Int.add_zero, Int.reduceAdd]; omega))
  · refine v_if_eq_y (t := 18) xB_124 dX11_row_5 (by decide) rfl (by decide) ?_
    refine v_iconst (n := 19) xB_124 dX11_row_18 ⟨by decide, by decide⟩ rfl ?_
    refine v_ireturn0 xB_124 dX11_row_19 xK_124 ?_
    first | exact o1 (by first | omega | (simp only [sA_same, sA_s, ud_s, Int.reduceEq, if_true, if_false, ite_true, ite_false, ↓reduceIte, and_true, true_and, eq_self, Int.add_zero, Int.reduceAdd]; omega) | (simp (disch := omega) only [sA_same, sA_ne, ud_eq, ud_ne, Int.add_zero, Int.reduceAdd]; omega)) | exact o2 (by first | omega | (simp only [sA_same, sA_s, ud_s, Int.reduceEq, if_true, if_false, ite_true, ite_false, ↓reduceIte, and_true, true_and, eq_self, Int.add_zero, Int.reduceAdd]; omega) | (simp (disch := omega) only [sA_same, sA_ne, ud_eq, ud_ne, Int.add_zero, Int.reduceAdd]; omega)) | exact o3 (by first | omega | (simp only [sA_same, sA_s, ud_s, Int.reduceEq, if_true, if_false, ite_true, ite_false, ↓reduceIte, and_true, true_and, eq_self, Int.add_zero, Int.reduceAdd]; omega) | (simp (disch := omega) only [sA_same, sA_ne, ud_eq, ud_ne, Int.add_zero, Int.reduceAdd]; omega)) | exact o4 (by first | omega | (simp only [sA_same, sA_s, ud_s, Int.reduceEq, if_true, if_false, ite_true, ite_false, ↓reduceIte, and_true, true_and, eq_self, Int.add_zero, Int.reduceAdd]; omega) | (simp (disch := omega) only [sA_same, sA_ne, ud_eq, ud_ne, Int.add_zero, Int.reduceAdd]; omega))
set_option maxHeartbeats 1000000 in
theorem c_feed {d : Nat} {s : Int} {m : PM} {dy : List (Nat × Nat)} {L : Nat} {Q : Option PV → PS → Prop} (hd : 2 ≤ d) (hF : 0 ≤ m 81 6 ∧ m 81 6 ≤ 100) (o1 : (¬ (0 ≤ s ∧ s ≤ 127)) → Q (some (.inl (-2))) (m, (none, (dy, L)))) (o2 : ((0 ≤ s ∧ s ≤ 127) ∧ m 81 6 = 100) → Q (some (.inl (-4))) (m, (none, (dy, L)))) (o3 : ((0 ≤ s ∧ s ≤ 127) ∧ m 81 6 < 100) → Q (some (.inl (m 81 6 + 1))) (setA (setA m 81 (ud (m 81) 6 (m 81 6 + 1))) 86 (ud (m 86) (m 81 6) s), (none, (dy, L)))) : C d 125 [.inr (.inr 81), .inl s] (m, (none, (dy, L))) Q := by
  refine C_go (k := 1) hd xL_125 (fun d hd => ?_)
  show V d 125 (0, ([some (.inr (.inr 81)), some (.inl s)], ([], (m, (none, (dy, L)))))) Q
  refine v_aload_n (n := 1) xB_125 dX11_feed_0 rfl rfl ?_
  refine v_iload_n (n := 2) xB_125 dX11_feed_1 rfl rfl ?_
  refine v_iconst (n := 3) xB_125 dX11_feed_2 ⟨by decide, by decide⟩ rfl ?_
  refine v_bipush (n := 5) xB_125 dX11_feed_3 ⟨by decide, by decide⟩ rfl ?_
  refine v_call_v (n := 8) xB_125 dX11_feed_5 xO_125 iv_11_221 rfl (sh_81 _ _ _) rfl rfl rfl ?_
  refine c_in (by omega)  (fun g1 => ?_) (fun g2 => ?_)
  · (try simp (disch := omega) only [sA_same, sA_ne, sA_sA, sA_sr, sB_s, ud_eq, ud_ne, ud_ud, ud_sr, uB_s, Int.add_zero, Int.reduceAdd] at g1)
    refine v_if_ne_y (t := 14) xB_125 dX11_feed_8 (by decide) rfl (by decide) ?_
    refine v_aload_n (n := 15) xB_125 dX11_feed_14 rfl rfl ?_
    refine v_gf_i (n := 18) (kz := 6) xB_125 dX11_feed_15 xO_125 fl_11_29 fg_11_6 rfl (sh_81 _ _ _) rfl rfl ?_
    refine v_bipush (n := 20) xB_125 dX11_feed_18 ⟨by decide, by decide⟩ rfl ?_
    refine v_ic_ne (t := 26) (n := 23) xB_125 dX11_feed_20 (by decide) rfl rfl (fun g3 => ?_) (fun g3 => ?_)
    · (try simp (disch := omega) only [sA_same, sA_ne, sA_sA, sA_sr, sB_s, ud_eq, ud_ne, ud_ud, ud_sr, uB_s, Int.add_zero, Int.reduceAdd] at g3)
      refine v_aload_n (n := 27) xB_125 dX11_feed_26 rfl rfl ?_
      refine v_gf_s (n := 30) (kz := 9) xB_125 dX11_feed_27 xO_125 fl_11_38 fg_11_9 (sh_81 _ _ _) rfl st_81_9 rfl ?_
      refine v_aload_n (n := 31) xB_125 dX11_feed_30 rfl rfl ?_
      refine v_gf_i (n := 34) (kz := 6) xB_125 dX11_feed_31 xO_125 fl_11_29 fg_11_6 rfl (sh_81 _ _ _) rfl rfl ?_
      refine v_iload_n (n := 35) xB_125 dX11_feed_34 rfl rfl ?_
      refine v_iastore (n := 36) (lz := 100) xB_125 dX11_feed_35 (sh_86 _ _ _) (by decide) rfl (by first | omega | (simp only [sA_same, sA_s, ud_s, Int.reduceEq, if_true, if_false, ite_true, ite_false, ↓reduceIte, and_true, true_and, eq_self, Int.add_zero, Int.reduceAdd]; omega) | (simp (disch := omega) only [sA_same, sA_ne, ud_eq, ud_ne, Int.add_zero, Int.reduceAdd]; omega)) rfl ?_
      (try simp (disch := omega) only [sA_same, sA_ne, sA_sA, sA_sr, sB_s, ud_eq, ud_ne, ud_ud, ud_sr, uB_s, Int.add_zero, Int.reduceAdd])
      refine v_aload_n (n := 37) xB_125 dX11_feed_36 rfl rfl ?_
      refine v_dup (n := 38) xB_125 dX11_feed_37 rfl rfl ?_
      refine v_gf_i (n := 41) (kz := 6) xB_125 dX11_feed_38 xO_125 fl_11_29 fg_11_6 rfl (sh_81 _ _ _) rfl rfl ?_
      refine v_iconst (n := 42) xB_125 dX11_feed_41 ⟨by decide, by decide⟩ rfl ?_
      refine v_iadd (n := 43) xB_125 dX11_feed_42 (by first | omega | (simp only [sA_same, sA_s, ud_s, Int.reduceEq, if_true, if_false, ite_true, ite_false, ↓reduceIte, and_true, true_and, eq_self, Int.add_zero, Int.reduceAdd]; omega) | (simp (disch := omega) only [sA_same, sA_ne, ud_eq, ud_ne, Int.add_zero, Int.reduceAdd]; omega)) rfl ?_
      refine v_pf_i (n := 46) (kz := 6) xB_125 dX11_feed_43 xO_125 fl_11_29 fg_11_6 (Or.inl fn_11_6) (sh_81 _ _ _) (by decide) rfl rfl ?_
      (try simp (disch := omega) only [sA_same, sA_ne, sA_sA, sA_sr, sB_s, ud_eq, ud_ne, ud_ud, ud_sr, uB_s, Int.add_zero, Int.reduceAdd])
      refine v_aload_n (n := 47) xB_125 dX11_feed_46 rfl rfl ?_
      refine v_gf_i (n := 50) (kz := 6) xB_125 dX11_feed_47 xO_125 fl_11_29 fg_11_6 rfl (sh_81 _ _ _) rfl rfl ?_
      refine v_ireturn0 xB_125 dX11_feed_50 xK_125 ?_
      first | exact o1 (by first | omega | (simp only [sA_same, sA_s, ud_s, Int.reduceEq, if_true, if_false, ite_true, ite_false, ↓reduceIte, and_true, true_and, eq_self, Int.add_zero, Int.reduceAdd]; omega) | (simp (disch := omega) only [sA_same, sA_ne, ud_eq, ud_ne, Int.add_zero, Int.reduceAdd]; omega)) | exact o2 (by first | omega | (simp only [sA_same, sA_s, ud_s, Int.reduceEq, if_true, if_false, ite_true, ite_false, ↓reduceIte, and_true, true_and, eq_self, Int.add_zero, Int.reduceAdd]; omega) | (simp (disch := omega) only [sA_same, sA_ne, ud_eq, ud_ne, Int.add_zero, Int.reduceAdd]; omega)) | exact o3 (by first | omega | (simp only [sA_same, sA_s, ud_s, Int.reduceEq, if_true, if_false, ite_true, ite_false, ↓reduceIte, and_true, true_and, eq_self, Int.add_zero, Int.reduceAdd]; omega) | (simp (disch := omega) only [sA_same, sA_ne, ud_eq, ud_ne, Int.add_zero, Int.reduceAdd]; omega))
    · (try simp (disch := omega) only [sA_same, sA_ne, sA_sA, sA_sr, sB_s, ud_eq, ud_ne, ud_ud, ud_sr, uB_s, Int.add_zero, Int.reduceAdd] at g3)
      refine v_bipush (n := 25) xB_125 dX11_feed_23 ⟨by decide, by decide⟩ rfl ?_
      refine v_ireturn0 xB_125 dX11_feed_25 xK_125 ?_
      first | exact o1 (by first | omega | (simp only [sA_same, sA_s, ud_s, Int.reduceEq, if_true, if_false, ite_true, ite_false, ↓reduceIte, and_true, true_and, eq_self, Int.add_zero, Int.reduceAdd]; omega) | (simp (disch := omega) only [sA_same, sA_ne, ud_eq, ud_ne, Int.add_zero, Int.reduceAdd]; omega)) | exact o2 (by first | omega | (simp only [sA_same, sA_s, ud_s, Int.reduceEq, if_true, if_false, ite_true, ite_false, ↓reduceIte, and_true, true_and, eq_self, Int.add_zero, Int.reduceAdd]; omega) | (simp (disch := omega) only [sA_same, sA_ne, ud_eq, ud_ne, Int.add_zero, Int.reduceAdd]; omega)) | exact o3 (by first | omega | (simp only [sA_same, sA_s, ud_s, Int.reduceEq, if_true, if_false, ite_true, ite_false, ↓reduceIte, and_true, true_and, eq_self, Int.add_zero, Int.reduceAdd]; omega) | (simp (disch := omega) only [sA_same, sA_ne, ud_eq, ud_ne, Int.add_zero, Int.reduceAdd]; omega))
  · (try simp (disch := omega) only [sA_same, sA_ne, sA_sA, sA_sr, sB_s, ud_eq, ud_ne, ud_ud, ud_sr, uB_s, Int.add_zero, Int.reduceAdd] at g2)
    refine v_if_ne_n (n := 11) xB_125 dX11_feed_8 (by decide) rfl (by decide) ?_
    refine v_bipush (n := 13) xB_125 dX11_feed_11 ⟨by decide, by decide⟩ rfl ?_
    refine v_ireturn0 xB_125 dX11_feed_13 xK_125 ?_
    first | exact o1 (by first | omega | (simp only [sA_same, sA_s, ud_s, Int.reduceEq, if_true, if_false, ite_true, ite_false, ↓reduceIte, and_true, true_and, eq_self, Int.add_zero, Int.reduceAdd]; omega) | (simp (disch := omega) only [sA_same, sA_ne, ud_eq, ud_ne, Int.add_zero, Int.reduceAdd]; omega)) | exact o2 (by first | omega | (simp only [sA_same, sA_s, ud_s, Int.reduceEq, if_true, if_false, ite_true, ite_false, ↓reduceIte, and_true, true_and, eq_self, Int.add_zero, Int.reduceAdd]; omega) | (simp (disch := omega) only [sA_same, sA_ne, ud_eq, ud_ne, Int.add_zero, Int.reduceAdd]; omega)) | exact o3 (by first | omega | (simp only [sA_same, sA_s, ud_s, Int.reduceEq, if_true, if_false, ite_true, ite_false, ↓reduceIte, and_true, true_and, eq_self, Int.add_zero, Int.reduceAdd]; omega) | (simp (disch := omega) only [sA_same, sA_ne, ud_eq, ud_ne, Int.add_zero, Int.reduceAdd]; omega))
set_option maxHeartbeats 1000000 in
theorem c_load {d : Nat} {n : Int} {m : PM} {dy : List (Nat × Nat)} {L : Nat} {Q : Option PV → PS → Prop} (hd : 3 ≤ d) (hN : 0 ≤ m 81 22 ∧ m 81 22 ≤ 12) (hb : bl (m 99)) (hp : pgs (m 96)) (o1 : (¬ (1 ≤ n ∧ n ≤ 12)) → Q (some (.inl (-2))) (m, (none, (dy, L)))) (o2 : ((1 ≤ n ∧ n ≤ 12) ∧ 12 < m 81 22 + n) → Q (some (.inl (-4))) (m, (none, (dy, L)))) (o3 : ∀ sd dn : Int → Int, bl dn → pgs sd → (∀ s, 0 ≤ s → s < m 81 22 + n → pkA sd dn s = if s < n then 0 else pkA (m 96) (m 99) (s - n)) → ((1 ≤ n ∧ n ≤ 12) ∧ m 81 22 + n ≤ 12) → Q (some (.inl (m 81 22 + n))) (setA (setA (setA m 81 (ud (m 81) 22 (m 81 22 + n))) 96 sd) 99 dn, (none, (dy, L)))) : C d 153 [.inr (.inr 81), .inl n] (m, (none, (dy, L))) Q := by
  refine C_go (k := 2) hd xL_153 (fun d hd => ?_)
  show V d 153 (0, ([some (.inr (.inr 81)), some (.inl n)], ([], (m, (none, (dy, L)))))) Q
  refine v_aload_n (n := 1) xB_153 dX11_load_0 rfl rfl ?_
  refine v_iload_n (n := 2) xB_153 dX11_load_1 rfl rfl ?_
  refine v_iconst (n := 3) xB_153 dX11_load_2 ⟨by decide, by decide⟩ rfl ?_
  refine v_bipush (n := 5) xB_153 dX11_load_3 ⟨by decide, by decide⟩ rfl ?_
  refine v_call_v (n := 8) xB_153 dX11_load_5 xO_153 iv_11_221 rfl (sh_81 _ _ _) rfl rfl rfl ?_
  refine c_in (by omega)  (fun g1 => ?_) (fun g2 => ?_)
  · (try simp (disch := omega) only [sA_same, sA_ne, sA_sA, sA_sr, sB_s, ud_eq, ud_ne, ud_ud, ud_sr, uB_s, Int.add_zero, Int.reduceAdd] at g1)
    refine v_if_ne_y (t := 14) xB_153 dX11_load_8 (by decide) rfl (by decide) ?_
    refine v_aload_n (n := 15) xB_153 dX11_load_14 rfl rfl ?_
    refine v_gf_i (n := 18) (kz := 22) xB_153 dX11_load_15 xO_153 fl_11_78 fg_11_22 rfl (sh_81 _ _ _) rfl rfl ?_
    refine v_iload_n (n := 19) xB_153 dX11_load_18 rfl rfl ?_
    refine v_iadd (n := 20) xB_153 dX11_load_19 (by first | omega | (simp only [sA_same, sA_s, ud_s, Int.reduceEq, if_true, if_false, ite_true, ite_false, ↓reduceIte, and_true, true_and, eq_self, Int.add_zero, Int.reduceAdd]; omega) | (simp (disch := omega) only [sA_same, sA_ne, ud_eq, ud_ne, Int.add_zero, Int.reduceAdd]; omega)) rfl ?_
    refine v_bipush (n := 22) xB_153 dX11_load_20 ⟨by decide, by decide⟩ rfl ?_
    refine v_ic_le (t := 28) (n := 25) xB_153 dX11_load_22 (by decide) rfl rfl (fun g3 => ?_) (fun g3 => ?_)
    · (try simp (disch := omega) only [sA_same, sA_ne, sA_sA, sA_sr, sB_s, ud_eq, ud_ne, ud_ud, ud_sr, uB_s, Int.add_zero, Int.reduceAdd] at g3)
      refine v_aload_n (n := 29) xB_153 dX11_load_28 rfl rfl ?_
      refine v_iload_n (n := 30) xB_153 dX11_load_29 rfl rfl ?_
      refine v_call_v (n := 33) xB_153 dX11_load_30 xO_153 iv_11_300 rfl (sh_81 _ _ _) rfl rfl rfl ?_
      refine c_loads (by omega) (by first | omega | (simp only [sA_same, sA_s, ud_s, Int.reduceEq, if_true, if_false, ite_true, ite_false, ↓reduceIte, and_true, true_and, eq_self, Int.add_zero, Int.reduceAdd]; omega) | (simp (disch := omega) only [sA_same, sA_ne, ud_eq, ud_ne, Int.add_zero, Int.reduceAdd]; omega)) (by first | omega | (simp only [sA_same, sA_s, ud_s, Int.reduceEq, if_true, if_false, ite_true, ite_false, ↓reduceIte, and_true, true_and, eq_self, Int.add_zero, Int.reduceAdd]; omega) | (simp (disch := omega) only [sA_same, sA_ne, ud_eq, ud_ne, Int.add_zero, Int.reduceAdd]; omega)) hb hp (fun sd dn q1 q2 q3 => ?_)
      (try simp (disch := omega) only [sA_same, sA_ne, sA_sA, sA_sr, sB_s, ud_eq, ud_ne, ud_ud, ud_sr, uB_s, Int.add_zero, Int.reduceAdd])
      refine v_aload_n (n := 34) xB_153 dX11_load_33 rfl rfl ?_
      refine v_gf_i (n := 37) (kz := 22) xB_153 dX11_load_34 xO_153 fl_11_78 fg_11_22 rfl (sh_81 _ _ _) rfl rfl ?_
      refine v_ireturn0 xB_153 dX11_load_37 xK_153 ?_
      first | exact o1 (by omega) | exact o2 (by omega) | ((try simp (disch := omega) only [sA_same, sA_ne, sA_sA, sA_sr, sB_s, ud_eq, ud_ne, ud_ud, ud_sr, uB_s, Int.add_zero, Int.reduceAdd]); exact o3 _ _ q1 q2 q3 (by omega))
    · (try simp (disch := omega) only [sA_same, sA_ne, sA_sA, sA_sr, sB_s, ud_eq, ud_ne, ud_ud, ud_sr, uB_s, Int.add_zero, Int.reduceAdd] at g3)
      refine v_bipush (n := 27) xB_153 dX11_load_25 ⟨by decide, by decide⟩ rfl ?_
      refine v_ireturn0 xB_153 dX11_load_27 xK_153 ?_
      first | exact o1 (by omega) | exact o2 (by omega) | ((try simp (disch := omega) only [sA_same, sA_ne, sA_sA, sA_sr, sB_s, ud_eq, ud_ne, ud_ud, ud_sr, uB_s, Int.add_zero, Int.reduceAdd]); exact o3 _ _ q1 q2 q3 (by omega))
  · (try simp (disch := omega) only [sA_same, sA_ne, sA_sA, sA_sr, sB_s, ud_eq, ud_ne, ud_ud, ud_sr, uB_s, Int.add_zero, Int.reduceAdd] at g2)
    refine v_if_ne_n (n := 11) xB_153 dX11_load_8 (by decide) rfl (by decide) ?_
    refine v_bipush (n := 13) xB_153 dX11_load_11 ⟨by decide, by decide⟩ rfl ?_
    refine v_ireturn0 xB_153 dX11_load_13 xK_153 ?_
    first | exact o1 (by omega) | exact o2 (by omega) | ((try simp (disch := omega) only [sA_same, sA_ne, sA_sA, sA_sr, sB_s, ud_eq, ud_ne, ud_ud, ud_sr, uB_s, Int.add_zero, Int.reduceAdd]); exact o3 _ _ q1 q2 q3 (by omega))
set_option maxHeartbeats 1000000 in
theorem c_empty {d : Nat}  {m : PM} {dy : List (Nat × Nat)} {L : Nat} {Q : Option PV → PS → Prop} (hd : 1 ≤ d)  (o1 : Q (some (.inl (m 81 22))) (setA m 81 (ud (m 81) 22 0), (none, (dy, L)))) : C d 154 [.inr (.inr 81)] (m, (none, (dy, L))) Q := by
  refine C_go (k := 0) hd xL_154 (fun d hd => ?_)
  show V d 154 (0, ([some (.inr (.inr 81)), none], ([], (m, (none, (dy, L)))))) Q
  refine v_aload_n (n := 1) xB_154 dX11_empty_0 rfl rfl ?_
  refine v_gf_i (n := 4) (kz := 22) xB_154 dX11_empty_1 xO_154 fl_11_78 fg_11_22 rfl (sh_81 _ _ _) rfl rfl ?_
  refine v_istore_n1 (n := 5) xB_154 dX11_empty_4 rfl rfl ?_
  refine v_aload_n (n := 6) xB_154 dX11_empty_5 rfl rfl ?_
  refine v_iconst (n := 7) xB_154 dX11_empty_6 ⟨by decide, by decide⟩ rfl ?_
  refine v_pf_i (n := 10) (kz := 22) xB_154 dX11_empty_7 xO_154 fl_11_78 fg_11_22 (Or.inl fn_11_22) (sh_81 _ _ _) (by decide) rfl rfl ?_
  refine v_iload_n (n := 11) xB_154 dX11_empty_10 rfl rfl ?_
  refine v_ireturn0 xB_154 dX11_empty_11 xK_154 ?_
  exact o1
set_option maxHeartbeats 1000000 in
theorem c_turn {d : Nat} {w : Int} {m : PM} {dy : List (Nat × Nat)} {L : Nat} {Q : Option PV → PS → Prop} (hd : 4 ≤ d) (hN : 0 ≤ m 81 22 ∧ m 81 22 ≤ 12) (hb : bl (m 99)) (hp : pgs (m 96)) (o1 : (¬ (0 ≤ w ∧ w ≤ 3)) → Q (some (.inl (-1))) (m, (none, (dy, L)))) (o2 : ∀ sd dn : Int → Int, bl dn → pgs sd → (∀ s, 0 ≤ s → s < m 81 22 → pkA sd dn s = wyF w (m 81 22) (pkA (m 96) (m 99)) s) → (0 ≤ w ∧ w ≤ 3) → Q (some (.inl (rtF (m 81 22) (pkA sd dn)))) (setA (setA m 96 sd) 99 dn, (none, (dy, L)))) : C d 160 [.inr (.inr 81), .inl w] (m, (none, (dy, L))) Q := by
  refine C_go (k := 3) hd xL_160 (fun d hd => ?_)
  show V d 160 (0, ([some (.inr (.inr 81)), some (.inl w)], ([], (m, (none, (dy, L)))))) Q
  refine v_aload_n (n := 1) xB_160 dX11_turn_0 rfl rfl ?_
  refine v_iload_n (n := 2) xB_160 dX11_turn_1 rfl rfl ?_
  refine v_iconst (n := 3) xB_160 dX11_turn_2 ⟨by decide, by decide⟩ rfl ?_
  refine v_iconst (n := 4) xB_160 dX11_turn_3 ⟨by decide, by decide⟩ rfl ?_
  refine v_call_v (n := 7) xB_160 dX11_turn_4 xO_160 iv_11_221 rfl (sh_81 _ _ _) rfl rfl rfl ?_
  refine c_in (by omega)  (fun g1 => ?_) (fun g2 => ?_)
  · refine v_if_ne_y (t := 12) xB_160 dX11_turn_7 (by decide) rfl (by decide) ?_
    refine v_aload_n (n := 13) xB_160 dX11_turn_12 rfl rfl ?_
    refine v_iload_n (n := 14) xB_160 dX11_turn_13 rfl rfl ?_
    refine v_call_v (n := 17) xB_160 dX11_turn_14 xO_160 iv_11_315 rfl (sh_81 _ _ _) rfl rfl rfl ?_
    refine c_goWay (by omega) (by first | omega | (simp only [sA_same, sA_s, ud_s, Int.reduceEq, if_true, if_false, ite_true, ite_false, ↓reduceIte, and_true, true_and, eq_self, Int.add_zero, Int.reduceAdd]; omega) | (simp (disch := omega) only [sA_same, sA_ne, ud_eq, ud_ne, Int.add_zero, Int.reduceAdd]; omega)) (by first | omega | (simp only [sA_same, sA_s, ud_s, Int.reduceEq, if_true, if_false, ite_true, ite_false, ↓reduceIte, and_true, true_and, eq_self, Int.add_zero, Int.reduceAdd]; omega) | (simp (disch := omega) only [sA_same, sA_ne, ud_eq, ud_ne, Int.add_zero, Int.reduceAdd]; omega)) hb hp (fun sd dn q1 q2 q3 => ?_)
    refine v_aload_n (n := 18) xB_160 dX11_turn_17 rfl rfl ?_
    refine v_call_v (n := 21) xB_160 dX11_turn_18 xO_160 iv_11_318 rfl (sh_81 _ _ _) rfl rfl rfl ?_
    refine c_right (by omega) (by first | omega | (simp only [sA_same, sA_s, ud_s, Int.reduceEq, if_true, if_false, ite_true, ite_false, ↓reduceIte, and_true, true_and, eq_self, Int.add_zero, Int.reduceAdd]; omega) | (simp (disch := omega) only [sA_same, sA_ne, ud_eq, ud_ne, Int.add_zero, Int.reduceAdd]; omega)) (by simp (disch := omega) only [sA_same]; exact q1) (by simp (disch := omega) only [sA_ne, sA_same]; exact q2) ?_
    refine v_ireturn0 xB_160 dX11_turn_21 xK_160 ?_
    first | exact o1 (by omega) | ((try simp (disch := omega) only [sA_same, sA_ne, sA_sA, sA_sr, sB_s, ud_eq, ud_ne, ud_ud, ud_sr, uB_s, Int.add_zero, Int.reduceAdd]); exact o2 _ _ q1 q2 q3 (by omega))
  · refine v_if_ne_n (n := 10) xB_160 dX11_turn_7 (by decide) rfl (by decide) ?_
    refine v_iconst (n := 11) xB_160 dX11_turn_10 ⟨by decide, by decide⟩ rfl ?_
    refine v_ireturn0 xB_160 dX11_turn_11 xK_160 ?_
    first | exact o1 (by omega) | ((try simp (disch := omega) only [sA_same, sA_ne, sA_sA, sA_sr, sB_s, ud_eq, ud_ne, ud_ud, ud_sr, uB_s, Int.add_zero, Int.reduceAdd]); exact o2 _ _ q1 q2 q3 (by omega))
set_option maxHeartbeats 1000000 in
theorem c_sheet {d : Nat} {s w : Int} {m : PM} {dy : List (Nat × Nat)} {L : Nat} {Q : Option PV → PS → Prop} (hd : 2 ≤ d) (hN : 0 ≤ m 81 22 ∧ m 81 22 ≤ 12) (o1 : (¬ (0 ≤ s ∧ s < m 81 22) ∨ ¬ (0 ≤ w ∧ w ≤ 4)) → Q (some (.inl (-1))) (m, (none, (dy, L)))) (o2 : ((0 ≤ s ∧ s < m 81 22) ∧ (w = 0 ∨ w = 1)) → Q (some (.inl (m 96 (2 * s + w)))) (m, (none, (dy, L)))) (o3 : ((0 ≤ s ∧ s < m 81 22) ∧ (w = 2 ∨ w = 3) ∧ m 99 (2 * s + w - 2) = 0) → Q (some (.inl (0))) (m, (none, (dy, L)))) (o4 : ((0 ≤ s ∧ s < m 81 22) ∧ (w = 2 ∨ w = 3) ∧ ¬ m 99 (2 * s + w - 2) = 0) → Q (some (.inl (1))) (m, (none, (dy, L)))) (o5 : ((0 ≤ s ∧ s < m 81 22) ∧ w = 4 ∧ (m 96 (2 * s) = 2 * s + 1 ∧ m 96 (2 * s + 1) = 2 * s + 2 ∧ m 99 (2 * s) = 0 ∧ m 99 (2 * s + 1) = 0)) → Q (some (.inl (1))) (m, (none, (dy, L)))) (o6 : ((0 ≤ s ∧ s < m 81 22) ∧ w = 4 ∧ ¬ (m 96 (2 * s) = 2 * s + 1 ∧ m 96 (2 * s + 1) = 2 * s + 2 ∧ m 99 (2 * s) = 0 ∧ m 99 (2 * s + 1) = 0)) → Q (some (.inl (0))) (m, (none, (dy, L)))) : C d 161 [.inr (.inr 81), .inl s, .inl w] (m, (none, (dy, L))) Q := by
  refine C_go (k := 1) hd xL_161 (fun d hd => ?_)
  show V d 161 (0, ([some (.inr (.inr 81)), some (.inl s), some (.inl w)], ([], (m, (none, (dy, L)))))) Q
  refine v_aload_n (n := 1) xB_161 dX11_sheet_0 rfl rfl ?_
  refine v_iload_n (n := 2) xB_161 dX11_sheet_1 rfl rfl ?_
  refine v_iconst (n := 3) xB_161 dX11_sheet_2 ⟨by decide, by decide⟩ rfl ?_
  refine v_aload_n (n := 4) xB_161 dX11_sheet_3 rfl rfl ?_
  refine v_gf_i (n := 7) (kz := 22) xB_161 dX11_sheet_4 xO_161 fl_11_78 fg_11_22 rfl (sh_81 _ _ _) rfl rfl ?_
  refine v_iconst (n := 8) xB_161 dX11_sheet_7 ⟨by decide, by decide⟩ rfl ?_
  refine v_isub (n := 9) xB_161 dX11_sheet_8 (by first | omega | (simp only [sA_same, sA_s, ud_s, Int.reduceEq, if_true, if_false, ite_true, ite_false, ↓reduceIte, and_true, true_and, eq_self, Int.add_zero, Int.reduceAdd]; omega) | (simp (disch := omega) only [sA_same, sA_ne, ud_eq, ud_ne, Int.add_zero, Int.reduceAdd]; omega)) rfl ?_
  refine v_call_v (n := 12) xB_161 dX11_sheet_9 xO_161 iv_11_221 rfl (sh_81 _ _ _) rfl rfl rfl ?_
  refine c_in (by omega)  (fun g1 => ?_) (fun g2 => ?_)
  · refine v_if_ne_y (t := 17) xB_161 dX11_sheet_12 (by decide) rfl (by decide) ?_
    refine v_iload_n (n := 18) xB_161 dX11_sheet_17 rfl rfl ?_
    refine v_tsw xB_161 dX11_sheet_18 rfl ?_
    refine ts_c (lo' := 1) rfl (fun g3 => ?_) (fun g3 => ?_)
    · refine jm_go (t := 52) (by decide) rfl ?_
      refine v_aload_n (n := 53) xB_161 dX11_sheet_52 rfl rfl ?_
      refine v_gf_s (n := 56) (kz := 23) xB_161 dX11_sheet_53 xO_161 fl_11_81 fg_11_23 (sh_81 _ _ _) rfl st_81_23 rfl ?_
      refine v_iconst (n := 57) xB_161 dX11_sheet_56 ⟨by decide, by decide⟩ rfl ?_
      refine v_iload_n (n := 58) xB_161 dX11_sheet_57 rfl rfl ?_
      refine v_imul (n := 59) xB_161 dX11_sheet_58 (by first | omega | (simp only [sA_same, sA_s, ud_s, Int.reduceEq, if_true, if_false, ite_true, ite_false, ↓reduceIte, and_true, true_and, eq_self, Int.add_zero, Int.reduceAdd]; omega) | (simp (disch := omega) only [sA_same, sA_ne, ud_eq, ud_ne, Int.add_zero, Int.reduceAdd]; omega)) rfl ?_
      refine v_iload_n (n := 60) xB_161 dX11_sheet_59 rfl rfl ?_
      refine v_iadd (n := 61) xB_161 dX11_sheet_60 (by first | omega | (simp only [sA_same, sA_s, ud_s, Int.reduceEq, if_true, if_false, ite_true, ite_false, ↓reduceIte, and_true, true_and, eq_self, Int.add_zero, Int.reduceAdd]; omega) | (simp (disch := omega) only [sA_same, sA_ne, ud_eq, ud_ne, Int.add_zero, Int.reduceAdd]; omega)) rfl ?_
      refine v_iaload (n := 62) (lz := 24) xB_161 dX11_sheet_61 (sh_96 _ _ _) rfl (by first | omega | (simp only [sA_same, sA_s, ud_s, Int.reduceEq, if_true, if_false, ite_true, ite_false, ↓reduceIte, and_true, true_and, eq_self, Int.add_zero, Int.reduceAdd]; omega) | (simp (disch := omega) only [sA_same, sA_ne, ud_eq, ud_ne, Int.add_zero, Int.reduceAdd]; omega)) rfl ?_
      refine v_ireturn0 xB_161 dX11_sheet_62 xK_161 ?_
      first | exact o1 (by first | omega | (simp only [sA_same, sA_s, ud_s, Int.reduceEq, if_true, if_false, ite_true, ite_false, ↓reduceIte, and_true, true_and, eq_self, Int.add_zero, Int.reduceAdd]; omega) | (simp (disch := omega) only [sA_same, sA_ne, ud_eq, ud_ne, Int.add_zero, Int.reduceAdd]; omega)) | exact o2 (by first | omega | (simp only [sA_same, sA_s, ud_s, Int.reduceEq, if_true, if_false, ite_true, ite_false, ↓reduceIte, and_true, true_and, eq_self, Int.add_zero, Int.reduceAdd]; omega) | (simp (disch := omega) only [sA_same, sA_ne, ud_eq, ud_ne, Int.add_zero, Int.reduceAdd]; omega)) | exact o3 (by first | omega | (simp only [sA_same, sA_s, ud_s, Int.reduceEq, if_true, if_false, ite_true, ite_false, ↓reduceIte, and_true, true_and, eq_self, Int.add_zero, Int.reduceAdd]; omega) | (simp (disch := omega) only [sA_same, sA_ne, ud_eq, ud_ne, Int.add_zero, Int.reduceAdd]; omega)) | exact o4 (by first | omega | (simp only [sA_same, sA_s, ud_s, Int.reduceEq, if_true, if_false, ite_true, ite_false, ↓reduceIte, and_true, true_and, eq_self, Int.add_zero, Int.reduceAdd]; omega) | (simp (disch := omega) only [sA_same, sA_ne, ud_eq, ud_ne, Int.add_zero, Int.reduceAdd]; omega)) | exact o5 (by first | omega | (simp only [sA_same, sA_s, ud_s, Int.reduceEq, if_true, if_false, ite_true, ite_false, ↓reduceIte, and_true, true_and, eq_self, Int.add_zero, Int.reduceAdd]; omega) | (simp (disch := omega) only [sA_same, sA_ne, ud_eq, ud_ne, Int.add_zero, Int.reduceAdd]; omega)) | exact o6 (by first | omega | (simp only [sA_same, sA_s, ud_s, Int.reduceEq, if_true, if_false, ite_true, ite_false, ↓reduceIte, and_true, true_and, eq_self, Int.add_zero, Int.reduceAdd]; omega) | (simp (disch := omega) only [sA_same, sA_ne, ud_eq, ud_ne, Int.add_zero, Int.reduceAdd]; omega))
    refine ts_c (lo' := 2) rfl (fun g4 => ?_) (fun g4 => ?_)
    · refine jm_go (t := 52) (by decide) rfl ?_
      refine v_aload_n (n := 53) xB_161 dX11_sheet_52 rfl rfl ?_
      refine v_gf_s (n := 56) (kz := 23) xB_161 dX11_sheet_53 xO_161 fl_11_81 fg_11_23 (sh_81 _ _ _) rfl st_81_23 rfl ?_
      refine v_iconst (n := 57) xB_161 dX11_sheet_56 ⟨by decide, by decide⟩ rfl ?_
      refine v_iload_n (n := 58) xB_161 dX11_sheet_57 rfl rfl ?_
      refine v_imul (n := 59) xB_161 dX11_sheet_58 (by first | omega | (simp only [sA_same, sA_s, ud_s, Int.reduceEq, if_true, if_false, ite_true, ite_false, ↓reduceIte, and_true, true_and, eq_self, Int.add_zero, Int.reduceAdd]; omega) | (simp (disch := omega) only [sA_same, sA_ne, ud_eq, ud_ne, Int.add_zero, Int.reduceAdd]; omega)) rfl ?_
      refine v_iload_n (n := 60) xB_161 dX11_sheet_59 rfl rfl ?_
      refine v_iadd (n := 61) xB_161 dX11_sheet_60 (by first | omega | (simp only [sA_same, sA_s, ud_s, Int.reduceEq, if_true, if_false, ite_true, ite_false, ↓reduceIte, and_true, true_and, eq_self, Int.add_zero, Int.reduceAdd]; omega) | (simp (disch := omega) only [sA_same, sA_ne, ud_eq, ud_ne, Int.add_zero, Int.reduceAdd]; omega)) rfl ?_
      refine v_iaload (n := 62) (lz := 24) xB_161 dX11_sheet_61 (sh_96 _ _ _) rfl (by first | omega | (simp only [sA_same, sA_s, ud_s, Int.reduceEq, if_true, if_false, ite_true, ite_false, ↓reduceIte, and_true, true_and, eq_self, Int.add_zero, Int.reduceAdd]; omega) | (simp (disch := omega) only [sA_same, sA_ne, ud_eq, ud_ne, Int.add_zero, Int.reduceAdd]; omega)) rfl ?_
      refine v_ireturn0 xB_161 dX11_sheet_62 xK_161 ?_
      first | exact o1 (by first | omega | (simp only [sA_same, sA_s, ud_s, Int.reduceEq, if_true, if_false, ite_true, ite_false, ↓reduceIte, and_true, true_and, eq_self, Int.add_zero, Int.reduceAdd]; omega) | (simp (disch := omega) only [sA_same, sA_ne, ud_eq, ud_ne, Int.add_zero, Int.reduceAdd]; omega)) | exact o2 (by first | omega | (simp only [sA_same, sA_s, ud_s, Int.reduceEq, if_true, if_false, ite_true, ite_false, ↓reduceIte, and_true, true_and, eq_self, Int.add_zero, Int.reduceAdd]; omega) | (simp (disch := omega) only [sA_same, sA_ne, ud_eq, ud_ne, Int.add_zero, Int.reduceAdd]; omega)) | exact o3 (by first | omega | (simp only [sA_same, sA_s, ud_s, Int.reduceEq, if_true, if_false, ite_true, ite_false, ↓reduceIte, and_true, true_and, eq_self, Int.add_zero, Int.reduceAdd]; omega) | (simp (disch := omega) only [sA_same, sA_ne, ud_eq, ud_ne, Int.add_zero, Int.reduceAdd]; omega)) | exact o4 (by first | omega | (simp only [sA_same, sA_s, ud_s, Int.reduceEq, if_true, if_false, ite_true, ite_false, ↓reduceIte, and_true, true_and, eq_self, Int.add_zero, Int.reduceAdd]; omega) | (simp (disch := omega) only [sA_same, sA_ne, ud_eq, ud_ne, Int.add_zero, Int.reduceAdd]; omega)) | exact o5 (by first | omega | (simp only [sA_same, sA_s, ud_s, Int.reduceEq, if_true, if_false, ite_true, ite_false, ↓reduceIte, and_true, true_and, eq_self, Int.add_zero, Int.reduceAdd]; omega) | (simp (disch := omega) only [sA_same, sA_ne, ud_eq, ud_ne, Int.add_zero, Int.reduceAdd]; omega)) | exact o6 (by first | omega | (simp only [sA_same, sA_s, ud_s, Int.reduceEq, if_true, if_false, ite_true, ite_false, ↓reduceIte, and_true, true_and, eq_self, Int.add_zero, Int.reduceAdd]; omega) | (simp (disch := omega) only [sA_same, sA_ne, ud_eq, ud_ne, Int.add_zero, Int.reduceAdd]; omega))
    refine ts_c (lo' := 3) rfl (fun g5 => ?_) (fun g5 => ?_)
    · refine jm_go (t := 63) (by decide) rfl ?_
      refine v_aload_n (n := 64) xB_161 dX11_sheet_63 rfl rfl ?_
      refine v_gf_s (n := 67) (kz := 26) xB_161 dX11_sheet_64 xO_161 fl_11_90 fg_11_26 (sh_81 _ _ _) rfl st_81_26 rfl ?_
      refine v_iconst (n := 68) xB_161 dX11_sheet_67 ⟨by decide, by decide⟩ rfl ?_
      refine v_iload_n (n := 69) xB_161 dX11_sheet_68 rfl rfl ?_
      refine v_imul (n := 70) xB_161 dX11_sheet_69 (by first | omega | (simp only [sA_same, sA_s, ud_s, Int.reduceEq, if_true, if_false, ite_true, ite_false, ↓reduceIte, and_true, true_and, eq_self, Int.add_zero, Int.reduceAdd]; omega) | (simp (disch := omega) only [sA_same, sA_ne, ud_eq, ud_ne, Int.add_zero, Int.reduceAdd]; omega)) rfl ?_
      refine v_iload_n (n := 71) xB_161 dX11_sheet_70 rfl rfl ?_
      refine v_iadd (n := 72) xB_161 dX11_sheet_71 (by first | omega | (simp only [sA_same, sA_s, ud_s, Int.reduceEq, if_true, if_false, ite_true, ite_false, ↓reduceIte, and_true, true_and, eq_self, Int.add_zero, Int.reduceAdd]; omega) | (simp (disch := omega) only [sA_same, sA_ne, ud_eq, ud_ne, Int.add_zero, Int.reduceAdd]; omega)) rfl ?_
      refine v_iconst (n := 73) xB_161 dX11_sheet_72 ⟨by decide, by decide⟩ rfl ?_
      refine v_isub (n := 74) xB_161 dX11_sheet_73 (by first | omega | (simp only [sA_same, sA_s, ud_s, Int.reduceEq, if_true, if_false, ite_true, ite_false, ↓reduceIte, and_true, true_and, eq_self, Int.add_zero, Int.reduceAdd]; omega) | (simp (disch := omega) only [sA_same, sA_ne, ud_eq, ud_ne, Int.add_zero, Int.reduceAdd]; omega)) rfl ?_
      refine v_baload (n := 75) (lz := 24) xB_161 dX11_sheet_74 (sh_99 _ _ _) rfl (by first | omega | (simp only [sA_same, sA_s, ud_s, Int.reduceEq, if_true, if_false, ite_true, ite_false, ↓reduceIte, and_true, true_and, eq_self, Int.add_zero, Int.reduceAdd]; omega) | (simp (disch := omega) only [sA_same, sA_ne, ud_eq, ud_ne, Int.add_zero, Int.reduceAdd]; omega)) rfl ?_
      refine v_if_eq (t := 82) (n := 78) xB_161 dX11_sheet_75 (by decide) rfl rfl (fun g6 => ?_) (fun g6 => ?_)
      · refine v_iconst (n := 83) xB_161 dX11_sheet_82 ⟨by decide, by decide⟩ rfl ?_
        refine v_ireturn0 xB_161 dX11_sheet_83 xK_161 ?_
        first | exact o1 (by first | omega | (simp only [sA_same, sA_s, ud_s, Int.reduceEq, if_true, if_false, ite_true, ite_false, ↓reduceIte, and_true, true_and, eq_self, Int.add_zero, Int.reduceAdd]; omega) | (simp (disch := omega) only [sA_same, sA_ne, ud_eq, ud_ne, Int.add_zero, Int.reduceAdd]; omega)) | exact o2 (by first | omega | (simp only [sA_same, sA_s, ud_s, Int.reduceEq, if_true, if_false, ite_true, ite_false, ↓reduceIte, and_true, true_and, eq_self, Int.add_zero, Int.reduceAdd]; omega) | (simp (disch := omega) only [sA_same, sA_ne, ud_eq, ud_ne, Int.add_zero, Int.reduceAdd]; omega)) | exact o3 (by first | omega | (simp only [sA_same, sA_s, ud_s, Int.reduceEq, if_true, if_false, ite_true, ite_false, ↓reduceIte, and_true, true_and, eq_self, Int.add_zero, Int.reduceAdd]; omega) | (simp (disch := omega) only [sA_same, sA_ne, ud_eq, ud_ne, Int.add_zero, Int.reduceAdd]; omega)) | exact o4 (by first | omega | (simp only [sA_same, sA_s, ud_s, Int.reduceEq, if_true, if_false, ite_true, ite_false, ↓reduceIte, and_true, true_and, eq_self, Int.add_zero, Int.reduceAdd]; omega) | (simp (disch := omega) only [sA_same, sA_ne, ud_eq, ud_ne, Int.add_zero, Int.reduceAdd]; omega)) | exact o5 (by first | omega | (simp only [sA_same, sA_s, ud_s, Int.reduceEq, if_true, if_false, ite_true, ite_false, ↓reduceIte, and_true, true_and, eq_self, Int.add_zero, Int.reduceAdd]; omega) | (simp (disch := omega) only [sA_same, sA_ne, ud_eq, ud_ne, Int.add_zero, Int.reduceAdd]; omega)) | exact o6 (by first | omega | (simp only [sA_same, sA_s, ud_s, Int.reduceEq, if_true, if_false, ite_true, ite_false, ↓reduceIte, and_true, true_and, eq_self, Int.add_zero, Int.reduceAdd]; omega) | (simp (disch := omega) only [sA_same, sA_ne, ud_eq, ud_ne, Int.add_zero, Int.reduceAdd]; omega))
      · refine v_iconst (n := 79) xB_161 dX11_sheet_78 ⟨by decide, by decide⟩ rfl ?_
        refine v_goto (t := 83) xB_161 dX11_sheet_79 (by decide) rfl ?_
        refine v_ireturn0 xB_161 dX11_sheet_83 xK_161 ?_
        first | exact o1 (by first | omega | (simp only [sA_same, sA_s, ud_s, Int.reduceEq, if_true, if_false, ite_true, ite_false, ↓reduceIte, and_true, true_and, eq_self, Int.add_zero, Int.reduceAdd]; omega) | (simp (disch := omega) only [sA_same, sA_ne, ud_eq, ud_ne, Int.add_zero, Int.reduceAdd]; omega)) | exact o2 (by first | omega | (simp only [sA_same, sA_s, ud_s, Int.reduceEq, if_true, if_false, ite_true, ite_false, ↓reduceIte, and_true, true_and, eq_self, Int.add_zero, Int.reduceAdd]; omega) | (simp (disch := omega) only [sA_same, sA_ne, ud_eq, ud_ne, Int.add_zero, Int.reduceAdd]; omega)) | exact o3 (by first | omega | (simp only [sA_same, sA_s, ud_s, Int.reduceEq, if_true, if_false, ite_true, ite_false, ↓reduceIte, and_true, true_and, eq_self, Int.add_zero, Int.reduceAdd]; omega) | (simp (disch := omega) only [sA_same, sA_ne, ud_eq, ud_ne, Int.add_zero, Int.reduceAdd]; omega)) | exact o4 (by first | omega | (simp only [sA_same, sA_s, ud_s, Int.reduceEq, if_true, if_false, ite_true, ite_false, ↓reduceIte, and_true, true_and, eq_self, Int.add_zero, Int.reduceAdd]; omega) | (simp (disch := omega) only [sA_same, sA_ne, ud_eq, ud_ne, Int.add_zero, Int.reduceAdd]; omega)) | exact o5 (by first | omega | (simp only [sA_same, sA_s, ud_s, Int.reduceEq, if_true, if_false, ite_true, ite_false, ↓reduceIte, and_true, true_and, eq_self, Int.add_zero, Int.reduceAdd]; omega) | (simp (disch := omega) only [sA_same, sA_ne, ud_eq, ud_ne, Int.add_zero, Int.reduceAdd]; omega)) | exact o6 (by first | omega | (simp only [sA_same, sA_s, ud_s, Int.reduceEq, if_true, if_false, ite_true, ite_false, ↓reduceIte, and_true, true_and, eq_self, Int.add_zero, Int.reduceAdd]; omega) | (simp (disch := omega) only [sA_same, sA_ne, ud_eq, ud_ne, Int.add_zero, Int.reduceAdd]; omega))
    refine ts_c (lo' := 4) rfl (fun g7 => ?_) (fun g7 => ?_)
    · refine jm_go (t := 63) (by decide) rfl ?_
      refine v_aload_n (n := 64) xB_161 dX11_sheet_63 rfl rfl ?_
      refine v_gf_s (n := 67) (kz := 26) xB_161 dX11_sheet_64 xO_161 fl_11_90 fg_11_26 (sh_81 _ _ _) rfl st_81_26 rfl ?_
      refine v_iconst (n := 68) xB_161 dX11_sheet_67 ⟨by decide, by decide⟩ rfl ?_
      refine v_iload_n (n := 69) xB_161 dX11_sheet_68 rfl rfl ?_
      refine v_imul (n := 70) xB_161 dX11_sheet_69 (by first | omega | (simp only [sA_same, sA_s, ud_s, Int.reduceEq, if_true, if_false, ite_true, ite_false, ↓reduceIte, and_true, true_and, eq_self, Int.add_zero, Int.reduceAdd]; omega) | (simp (disch := omega) only [sA_same, sA_ne, ud_eq, ud_ne, Int.add_zero, Int.reduceAdd]; omega)) rfl ?_
      refine v_iload_n (n := 71) xB_161 dX11_sheet_70 rfl rfl ?_
      refine v_iadd (n := 72) xB_161 dX11_sheet_71 (by first | omega | (simp only [sA_same, sA_s, ud_s, Int.reduceEq, if_true, if_false, ite_true, ite_false, ↓reduceIte, and_true, true_and, eq_self, Int.add_zero, Int.reduceAdd]; omega) | (simp (disch := omega) only [sA_same, sA_ne, ud_eq, ud_ne, Int.add_zero, Int.reduceAdd]; omega)) rfl ?_
      refine v_iconst (n := 73) xB_161 dX11_sheet_72 ⟨by decide, by decide⟩ rfl ?_
      refine v_isub (n := 74) xB_161 dX11_sheet_73 (by first | omega | (simp only [sA_same, sA_s, ud_s, Int.reduceEq, if_true, if_false, ite_true, ite_false, ↓reduceIte, and_true, true_and, eq_self, Int.add_zero, Int.reduceAdd]; omega) | (simp (disch := omega) only [sA_same, sA_ne, ud_eq, ud_ne, Int.add_zero, Int.reduceAdd]; omega)) rfl ?_
      refine v_baload (n := 75) (lz := 24) xB_161 dX11_sheet_74 (sh_99 _ _ _) rfl (by first | omega | (simp only [sA_same, sA_s, ud_s, Int.reduceEq, if_true, if_false, ite_true, ite_false, ↓reduceIte, and_true, true_and, eq_self, Int.add_zero, Int.reduceAdd]; omega) | (simp (disch := omega) only [sA_same, sA_ne, ud_eq, ud_ne, Int.add_zero, Int.reduceAdd]; omega)) rfl ?_
      refine v_if_eq (t := 82) (n := 78) xB_161 dX11_sheet_75 (by decide) rfl rfl (fun g8 => ?_) (fun g8 => ?_)
      · refine v_iconst (n := 83) xB_161 dX11_sheet_82 ⟨by decide, by decide⟩ rfl ?_
        refine v_ireturn0 xB_161 dX11_sheet_83 xK_161 ?_
        first | exact o1 (by first | omega | (simp only [sA_same, sA_s, ud_s, Int.reduceEq, if_true, if_false, ite_true, ite_false, ↓reduceIte, and_true, true_and, eq_self, Int.add_zero, Int.reduceAdd]; omega) | (simp (disch := omega) only [sA_same, sA_ne, ud_eq, ud_ne, Int.add_zero, Int.reduceAdd]; omega)) | exact o2 (by first | omega | (simp only [sA_same, sA_s, ud_s, Int.reduceEq, if_true, if_false, ite_true, ite_false, ↓reduceIte, and_true, true_and, eq_self, Int.add_zero, Int.reduceAdd]; omega) | (simp (disch := omega) only [sA_same, sA_ne, ud_eq, ud_ne, Int.add_zero, Int.reduceAdd]; omega)) | exact o3 (by first | omega | (simp only [sA_same, sA_s, ud_s, Int.reduceEq, if_true, if_false, ite_true, ite_false, ↓reduceIte, and_true, true_and, eq_self, Int.add_zero, Int.reduceAdd]; omega) | (simp (disch := omega) only [sA_same, sA_ne, ud_eq, ud_ne, Int.add_zero, Int.reduceAdd]; omega)) | exact o4 (by first | omega | (simp only [sA_same, sA_s, ud_s, Int.reduceEq, if_true, if_false, ite_true, ite_false, ↓reduceIte, and_true, true_and, eq_self, Int.add_zero, Int.reduceAdd]; omega) | (simp (disch := omega) only [sA_same, sA_ne, ud_eq, ud_ne, Int.add_zero, Int.reduceAdd]; omega)) | exact o5 (by first | omega | (simp only [sA_same, sA_s, ud_s, Int.reduceEq, if_true, if_false, ite_true, ite_false, ↓reduceIte, and_true, true_and, eq_self, Int.add_zero, Int.reduceAdd]; omega) | (simp (disch := omega) only [sA_same, sA_ne, ud_eq, ud_ne, Int.add_zero, Int.reduceAdd]; omega)) | exact o6 (by first | omega | (simp only [sA_same, sA_s, ud_s, Int.reduceEq, if_true, if_false, ite_true, ite_false, ↓reduceIte, and_true, true_and, eq_self, Int.add_zero, Int.reduceAdd]; omega) | (simp (disch := omega) only [sA_same, sA_ne, ud_eq, ud_ne, Int.add_zero, Int.reduceAdd]; omega))
      · refine v_iconst (n := 79) xB_161 dX11_sheet_78 ⟨by decide, by decide⟩ rfl ?_
        refine v_goto (t := 83) xB_161 dX11_sheet_79 (by decide) rfl ?_
        refine v_ireturn0 xB_161 dX11_sheet_83 xK_161 ?_
        first | exact o1 (by first | omega | (simp only [sA_same, sA_s, ud_s, Int.reduceEq, if_true, if_false, ite_true, ite_false, ↓reduceIte, and_true, true_and, eq_self, Int.add_zero, Int.reduceAdd]; omega) | (simp (disch := omega) only [sA_same, sA_ne, ud_eq, ud_ne, Int.add_zero, Int.reduceAdd]; omega)) | exact o2 (by first | omega | (simp only [sA_same, sA_s, ud_s, Int.reduceEq, if_true, if_false, ite_true, ite_false, ↓reduceIte, and_true, true_and, eq_self, Int.add_zero, Int.reduceAdd]; omega) | (simp (disch := omega) only [sA_same, sA_ne, ud_eq, ud_ne, Int.add_zero, Int.reduceAdd]; omega)) | exact o3 (by first | omega | (simp only [sA_same, sA_s, ud_s, Int.reduceEq, if_true, if_false, ite_true, ite_false, ↓reduceIte, and_true, true_and, eq_self, Int.add_zero, Int.reduceAdd]; omega) | (simp (disch := omega) only [sA_same, sA_ne, ud_eq, ud_ne, Int.add_zero, Int.reduceAdd]; omega)) | exact o4 (by first | omega | (simp only [sA_same, sA_s, ud_s, Int.reduceEq, if_true, if_false, ite_true, ite_false, ↓reduceIte, and_true, true_and, eq_self, Int.add_zero, Int.reduceAdd]; omega) | (simp (disch := omega) only [sA_same, sA_ne, ud_eq, ud_ne, Int.add_zero, Int.reduceAdd]; omega)) | exact o5 (by first | omega | (simp only [sA_same, sA_s, ud_s, Int.reduceEq, if_true, if_false, ite_true, ite_false, ↓reduceIte, and_true, true_and, eq_self, Int.add_zero, Int.reduceAdd]; omega) | (simp (disch := omega) only [sA_same, sA_ne, ud_eq, ud_ne, Int.add_zero, Int.reduceAdd]; omega)) | exact o6 (by first | omega | (simp only [sA_same, sA_s, ud_s, Int.reduceEq, if_true, if_false, ite_true, ite_false, ↓reduceIte, and_true, true_and, eq_self, Int.add_zero, Int.reduceAdd]; omega) | (simp (disch := omega) only [sA_same, sA_ne, ud_eq, ud_ne, Int.add_zero, Int.reduceAdd]; omega))
    refine ts_c (lo' := 5) rfl (fun g9 => ?_) (fun g9 => ?_)
    · refine jm_go (t := 84) (by decide) rfl ?_
      refine v_aload_n (n := 85) xB_161 dX11_sheet_84 rfl rfl ?_
      refine v_iload_n (n := 86) xB_161 dX11_sheet_85 rfl rfl ?_
      refine v_call_v (n := 89) xB_161 dX11_sheet_86 xO_161 iv_11_312 rfl (sh_81 _ _ _) rfl rfl rfl ?_
      refine c_isRight (by omega) (by first | omega | (simp only [sA_same, sA_s, ud_s, Int.reduceEq, if_true, if_false, ite_true, ite_false, ↓reduceIte, and_true, true_and, eq_self, Int.add_zero, Int.reduceAdd]; omega) | (simp (disch := omega) only [sA_same, sA_ne, ud_eq, ud_ne, Int.add_zero, Int.reduceAdd]; omega)) (fun g10 => ?_) (fun g11 => ?_)
      · refine v_if_eq_n (n := 92) xB_161 dX11_sheet_89 (by decide) rfl (by decide) ?_
        refine v_iconst (n := 93) xB_161 dX11_sheet_92 ⟨by decide, by decide⟩ rfl ?_
        refine v_goto (t := 97) xB_161 dX11_sheet_93 (by decide) rfl ?_
        refine v_ireturn0 xB_161 dX11_sheet_97 xK_161 ?_
        first | exact o1 (by first | omega | (simp only [sA_same, sA_s, ud_s, Int.reduceEq, if_true, if_false, ite_true, ite_false, ↓reduceIte, and_true, true_and, eq_self, Int.add_zero, Int.reduceAdd]; omega) | (simp (disch := omega) only [sA_same, sA_ne, ud_eq, ud_ne, Int.add_zero, Int.reduceAdd]; omega)) | exact o2 (by first | omega | (simp only [sA_same, sA_s, ud_s, Int.reduceEq, if_true, if_false, ite_true, ite_false, ↓reduceIte, and_true, true_and, eq_self, Int.add_zero, Int.reduceAdd]; omega) | (simp (disch := omega) only [sA_same, sA_ne, ud_eq, ud_ne, Int.add_zero, Int.reduceAdd]; omega)) | exact o3 (by first | omega | (simp only [sA_same, sA_s, ud_s, Int.reduceEq, if_true, if_false, ite_true, ite_false, ↓reduceIte, and_true, true_and, eq_self, Int.add_zero, Int.reduceAdd]; omega) | (simp (disch := omega) only [sA_same, sA_ne, ud_eq, ud_ne, Int.add_zero, Int.reduceAdd]; omega)) | exact o4 (by first | omega | (simp only [sA_same, sA_s, ud_s, Int.reduceEq, if_true, if_false, ite_true, ite_false, ↓reduceIte, and_true, true_and, eq_self, Int.add_zero, Int.reduceAdd]; omega) | (simp (disch := omega) only [sA_same, sA_ne, ud_eq, ud_ne, Int.add_zero, Int.reduceAdd]; omega)) | exact o5 (by first | omega | (simp only [sA_same, sA_s, ud_s, Int.reduceEq, if_true, if_false, ite_true, ite_false, ↓reduceIte, and_true, true_and, eq_self, Int.add_zero, Int.reduceAdd]; omega) | (simp (disch := omega) only [sA_same, sA_ne, ud_eq, ud_ne, Int.add_zero, Int.reduceAdd]; omega)) | exact o6 (by first | omega | (simp only [sA_same, sA_s, ud_s, Int.reduceEq, if_true, if_false, ite_true, ite_false, ↓reduceIte, and_true, true_and, eq_self, Int.add_zero, Int.reduceAdd]; omega) | (simp (disch := omega) only [sA_same, sA_ne, ud_eq, ud_ne, Int.add_zero, Int.reduceAdd]; omega))
      · refine v_if_eq_y (t := 96) xB_161 dX11_sheet_89 (by decide) rfl (by decide) ?_
        refine v_iconst (n := 97) xB_161 dX11_sheet_96 ⟨by decide, by decide⟩ rfl ?_
        refine v_ireturn0 xB_161 dX11_sheet_97 xK_161 ?_
        first | exact o1 (by first | omega | (simp only [sA_same, sA_s, ud_s, Int.reduceEq, if_true, if_false, ite_true, ite_false, ↓reduceIte, and_true, true_and, eq_self, Int.add_zero, Int.reduceAdd]; omega) | (simp (disch := omega) only [sA_same, sA_ne, ud_eq, ud_ne, Int.add_zero, Int.reduceAdd]; omega)) | exact o2 (by first | omega | (simp only [sA_same, sA_s, ud_s, Int.reduceEq, if_true, if_false, ite_true, ite_false, ↓reduceIte, and_true, true_and, eq_self, Int.add_zero, Int.reduceAdd]; omega) | (simp (disch := omega) only [sA_same, sA_ne, ud_eq, ud_ne, Int.add_zero, Int.reduceAdd]; omega)) | exact o3 (by first | omega | (simp only [sA_same, sA_s, ud_s, Int.reduceEq, if_true, if_false, ite_true, ite_false, ↓reduceIte, and_true, true_and, eq_self, Int.add_zero, Int.reduceAdd]; omega) | (simp (disch := omega) only [sA_same, sA_ne, ud_eq, ud_ne, Int.add_zero, Int.reduceAdd]; omega)) | exact o4 (by first | omega | (simp only [sA_same, sA_s, ud_s, Int.reduceEq, if_true, if_false, ite_true, ite_false, ↓reduceIte, and_true, true_and, eq_self, Int.add_zero, Int.reduceAdd]; omega) | (simp (disch := omega) only [sA_same, sA_ne, ud_eq, ud_ne, Int.add_zero, Int.reduceAdd]; omega)) | exact o5 (by first | omega | (simp only [sA_same, sA_s, ud_s, Int.reduceEq, if_true, if_false, ite_true, ite_false, ↓reduceIte, and_true, true_and, eq_self, Int.add_zero, Int.reduceAdd]; omega) | (simp (disch := omega) only [sA_same, sA_ne, ud_eq, ud_ne, Int.add_zero, Int.reduceAdd]; omega)) | exact o6 (by first | omega | (simp only [sA_same, sA_s, ud_s, Int.reduceEq, if_true, if_false, ite_true, ite_false, ↓reduceIte, and_true, true_and, eq_self, Int.add_zero, Int.reduceAdd]; omega) | (simp (disch := omega) only [sA_same, sA_ne, ud_eq, ud_ne, Int.add_zero, Int.reduceAdd]; omega))
    refine ts_n ?_
    refine jm_go (t := 98) (by decide) rfl ?_
    refine v_iconst (n := 99) xB_161 dX11_sheet_98 ⟨by decide, by decide⟩ rfl ?_
    refine v_ireturn0 xB_161 dX11_sheet_99 xK_161 ?_
    first | exact o1 (by first | omega | (simp only [sA_same, sA_s, ud_s, Int.reduceEq, if_true, if_false, ite_true, ite_false, ↓reduceIte, and_true, true_and, eq_self, Int.add_zero, Int.reduceAdd]; omega) | (simp (disch := omega) only [sA_same, sA_ne, ud_eq, ud_ne, Int.add_zero, Int.reduceAdd]; omega)) | exact o2 (by first | omega | (simp only [sA_same, sA_s, ud_s, Int.reduceEq, if_true, if_false, ite_true, ite_false, ↓reduceIte, and_true, true_and, eq_self, Int.add_zero, Int.reduceAdd]; omega) | (simp (disch := omega) only [sA_same, sA_ne, ud_eq, ud_ne, Int.add_zero, Int.reduceAdd]; omega)) | exact o3 (by first | omega | (simp only [sA_same, sA_s, ud_s, Int.reduceEq, if_true, if_false, ite_true, ite_false, ↓reduceIte, and_true, true_and, eq_self, Int.add_zero, Int.reduceAdd]; omega) | (simp (disch := omega) only [sA_same, sA_ne, ud_eq, ud_ne, Int.add_zero, Int.reduceAdd]; omega)) | exact o4 (by first | omega | (simp only [sA_same, sA_s, ud_s, Int.reduceEq, if_true, if_false, ite_true, ite_false, ↓reduceIte, and_true, true_and, eq_self, Int.add_zero, Int.reduceAdd]; omega) | (simp (disch := omega) only [sA_same, sA_ne, ud_eq, ud_ne, Int.add_zero, Int.reduceAdd]; omega)) | exact o5 (by first | omega | (simp only [sA_same, sA_s, ud_s, Int.reduceEq, if_true, if_false, ite_true, ite_false, ↓reduceIte, and_true, true_and, eq_self, Int.add_zero, Int.reduceAdd]; omega) | (simp (disch := omega) only [sA_same, sA_ne, ud_eq, ud_ne, Int.add_zero, Int.reduceAdd]; omega)) | exact o6 (by first | omega | (simp only [sA_same, sA_s, ud_s, Int.reduceEq, if_true, if_false, ite_true, ite_false, ↓reduceIte, and_true, true_and, eq_self, Int.add_zero, Int.reduceAdd]; omega) | (simp (disch := omega) only [sA_same, sA_ne, ud_eq, ud_ne, Int.add_zero, Int.reduceAdd]; omega))
  · refine v_if_ne_n (n := 15) xB_161 dX11_sheet_12 (by decide) rfl (by decide) ?_
    refine v_iconst (n := 16) xB_161 dX11_sheet_15 ⟨by decide, by decide⟩ rfl ?_
    refine v_ireturn0 xB_161 dX11_sheet_16 xK_161 ?_
    first | exact o1 (by first | omega | (simp only [sA_same, sA_s, ud_s, Int.reduceEq, if_true, if_false, ite_true, ite_false, ↓reduceIte, and_true, true_and, eq_self, Int.add_zero, Int.reduceAdd]; omega) | (simp (disch := omega) only [sA_same, sA_ne, ud_eq, ud_ne, Int.add_zero, Int.reduceAdd]; omega)) | exact o2 (by first | omega | (simp only [sA_same, sA_s, ud_s, Int.reduceEq, if_true, if_false, ite_true, ite_false, ↓reduceIte, and_true, true_and, eq_self, Int.add_zero, Int.reduceAdd]; omega) | (simp (disch := omega) only [sA_same, sA_ne, ud_eq, ud_ne, Int.add_zero, Int.reduceAdd]; omega)) | exact o3 (by first | omega | (simp only [sA_same, sA_s, ud_s, Int.reduceEq, if_true, if_false, ite_true, ite_false, ↓reduceIte, and_true, true_and, eq_self, Int.add_zero, Int.reduceAdd]; omega) | (simp (disch := omega) only [sA_same, sA_ne, ud_eq, ud_ne, Int.add_zero, Int.reduceAdd]; omega)) | exact o4 (by first | omega | (simp only [sA_same, sA_s, ud_s, Int.reduceEq, if_true, if_false, ite_true, ite_false, ↓reduceIte, and_true, true_and, eq_self, Int.add_zero, Int.reduceAdd]; omega) | (simp (disch := omega) only [sA_same, sA_ne, ud_eq, ud_ne, Int.add_zero, Int.reduceAdd]; omega)) | exact o5 (by first | omega | (simp only [sA_same, sA_s, ud_s, Int.reduceEq, if_true, if_false, ite_true, ite_false, ↓reduceIte, and_true, true_and, eq_self, Int.add_zero, Int.reduceAdd]; omega) | (simp (disch := omega) only [sA_same, sA_ne, ud_eq, ud_ne, Int.add_zero, Int.reduceAdd]; omega)) | exact o6 (by first | omega | (simp only [sA_same, sA_s, ud_s, Int.reduceEq, if_true, if_false, ite_true, ite_false, ↓reduceIte, and_true, true_and, eq_self, Int.add_zero, Int.reduceAdd]; omega) | (simp (disch := omega) only [sA_same, sA_ne, ud_eq, ud_ne, Int.add_zero, Int.reduceAdd]; omega))
set_option maxHeartbeats 1000000 in
theorem c_told {d : Nat} {w : Int} {m : PM} {dy : List (Nat × Nat)} {L : Nat} {Q : Option PV → PS → Prop} (hd : 3 ≤ d) (hN : 0 ≤ m 81 22 ∧ m 81 22 ≤ 12) (hb : bl (m 99)) (hp : pgs (m 96)) (o1 : (¬ (0 ≤ w ∧ w ≤ 3)) → Q (some (.inl (-1))) (m, (none, (dy, L)))) (o2 : (w = 0) → Q (some (.inl (rtF (m 81 22) (pkA (m 96) (m 99))))) (m, (none, (dy, L)))) (o3 : (w = 1) → Q (some (.inl (swF (m 81 22) (pkA (m 96) (m 99)) 99))) (m, (none, (dy, L)))) (o4 : (w = 2) → Q (some (.inl (swF (m 81 22) (pkA (m 96) (m 99)) 0))) (m, (none, (dy, L)))) (o5 : (w = 3) → Q (some (.inl (msF (swF (m 81 22) (pkA (m 96) (m 99))) 24))) (m, (none, (dy, L)))) : C d 163 [.inr (.inr 81), .inl w] (m, (none, (dy, L))) Q := by
  refine C_go (k := 2) hd xL_163 (fun d hd => ?_)
  show V d 163 (0, ([some (.inr (.inr 81)), some (.inl w)], ([], (m, (none, (dy, L)))))) Q
  refine v_iload_n (n := 1) xB_163 dX11_told_0 rfl rfl ?_
  refine v_tsw xB_163 dX11_told_1 rfl ?_
  refine ts_c (lo' := 1) rfl (fun g1 => ?_) (fun g1 => ?_)
  · refine jm_go (t := 32) (by decide) rfl ?_
    refine v_aload_n (n := 33) xB_163 dX11_told_32 rfl rfl ?_
    refine v_call_v (n := 36) xB_163 dX11_told_33 xO_163 iv_11_318 rfl (sh_81 _ _ _) rfl rfl rfl ?_
    refine c_right (by omega) (by first | omega | (simp only [sA_same, sA_s, ud_s, Int.reduceEq, if_true, if_false, ite_true, ite_false, ↓reduceIte, and_true, true_and, eq_self, Int.add_zero, Int.reduceAdd]; omega) | (simp (disch := omega) only [sA_same, sA_ne, ud_eq, ud_ne, Int.add_zero, Int.reduceAdd]; omega)) hb hp ?_
    refine v_ireturn0 xB_163 dX11_told_36 xK_163 ?_
    first | exact o1 (by first | omega | (simp only [sA_same, sA_s, ud_s, Int.reduceEq, if_true, if_false, ite_true, ite_false, ↓reduceIte, and_true, true_and, eq_self, Int.add_zero, Int.reduceAdd]; omega) | (simp (disch := omega) only [sA_same, sA_ne, ud_eq, ud_ne, Int.add_zero, Int.reduceAdd]; omega)) | exact o2 (by first | omega | (simp only [sA_same, sA_s, ud_s, Int.reduceEq, if_true, if_false, ite_true, ite_false, ↓reduceIte, and_true, true_and, eq_self, Int.add_zero, Int.reduceAdd]; omega) | (simp (disch := omega) only [sA_same, sA_ne, ud_eq, ud_ne, Int.add_zero, Int.reduceAdd]; omega)) | exact o3 (by first | omega | (simp only [sA_same, sA_s, ud_s, Int.reduceEq, if_true, if_false, ite_true, ite_false, ↓reduceIte, and_true, true_and, eq_self, Int.add_zero, Int.reduceAdd]; omega) | (simp (disch := omega) only [sA_same, sA_ne, ud_eq, ud_ne, Int.add_zero, Int.reduceAdd]; omega)) | exact o4 (by first | omega | (simp only [sA_same, sA_s, ud_s, Int.reduceEq, if_true, if_false, ite_true, ite_false, ↓reduceIte, and_true, true_and, eq_self, Int.add_zero, Int.reduceAdd]; omega) | (simp (disch := omega) only [sA_same, sA_ne, ud_eq, ud_ne, Int.add_zero, Int.reduceAdd]; omega)) | exact o5 (by first | omega | (simp only [sA_same, sA_s, ud_s, Int.reduceEq, if_true, if_false, ite_true, ite_false, ↓reduceIte, and_true, true_and, eq_self, Int.add_zero, Int.reduceAdd]; omega) | (simp (disch := omega) only [sA_same, sA_ne, ud_eq, ud_ne, Int.add_zero, Int.reduceAdd]; omega))
  refine ts_c (lo' := 2) rfl (fun g2 => ?_) (fun g2 => ?_)
  · refine jm_go (t := 37) (by decide) rfl ?_
    refine v_aload_n (n := 38) xB_163 dX11_told_37 rfl rfl ?_
    refine v_bipush (n := 40) xB_163 dX11_told_38 ⟨by decide, by decide⟩ rfl ?_
    refine v_call_v (n := 43) xB_163 dX11_told_40 xO_163 iv_11_321 rfl (sh_81 _ _ _) rfl rfl rfl ?_
    refine c_sidesWith (by omega) (by first | omega | (simp only [sA_same, sA_s, ud_s, Int.reduceEq, if_true, if_false, ite_true, ite_false, ↓reduceIte, and_true, true_and, eq_self, Int.add_zero, Int.reduceAdd]; omega) | (simp (disch := omega) only [sA_same, sA_ne, ud_eq, ud_ne, Int.add_zero, Int.reduceAdd]; omega)) hb hp ?_
    refine v_ireturn0 xB_163 dX11_told_43 xK_163 ?_
    first | exact o1 (by first | omega | (simp only [sA_same, sA_s, ud_s, Int.reduceEq, if_true, if_false, ite_true, ite_false, ↓reduceIte, and_true, true_and, eq_self, Int.add_zero, Int.reduceAdd]; omega) | (simp (disch := omega) only [sA_same, sA_ne, ud_eq, ud_ne, Int.add_zero, Int.reduceAdd]; omega)) | exact o2 (by first | omega | (simp only [sA_same, sA_s, ud_s, Int.reduceEq, if_true, if_false, ite_true, ite_false, ↓reduceIte, and_true, true_and, eq_self, Int.add_zero, Int.reduceAdd]; omega) | (simp (disch := omega) only [sA_same, sA_ne, ud_eq, ud_ne, Int.add_zero, Int.reduceAdd]; omega)) | exact o3 (by first | omega | (simp only [sA_same, sA_s, ud_s, Int.reduceEq, if_true, if_false, ite_true, ite_false, ↓reduceIte, and_true, true_and, eq_self, Int.add_zero, Int.reduceAdd]; omega) | (simp (disch := omega) only [sA_same, sA_ne, ud_eq, ud_ne, Int.add_zero, Int.reduceAdd]; omega)) | exact o4 (by first | omega | (simp only [sA_same, sA_s, ud_s, Int.reduceEq, if_true, if_false, ite_true, ite_false, ↓reduceIte, and_true, true_and, eq_self, Int.add_zero, Int.reduceAdd]; omega) | (simp (disch := omega) only [sA_same, sA_ne, ud_eq, ud_ne, Int.add_zero, Int.reduceAdd]; omega)) | exact o5 (by first | omega | (simp only [sA_same, sA_s, ud_s, Int.reduceEq, if_true, if_false, ite_true, ite_false, ↓reduceIte, and_true, true_and, eq_self, Int.add_zero, Int.reduceAdd]; omega) | (simp (disch := omega) only [sA_same, sA_ne, ud_eq, ud_ne, Int.add_zero, Int.reduceAdd]; omega))
  refine ts_c (lo' := 3) rfl (fun g3 => ?_) (fun g3 => ?_)
  · refine jm_go (t := 44) (by decide) rfl ?_
    refine v_aload_n (n := 45) xB_163 dX11_told_44 rfl rfl ?_
    refine v_iconst (n := 46) xB_163 dX11_told_45 ⟨by decide, by decide⟩ rfl ?_
    refine v_call_v (n := 49) xB_163 dX11_told_46 xO_163 iv_11_321 rfl (sh_81 _ _ _) rfl rfl rfl ?_
    refine c_sidesWith (by omega) (by first | omega | (simp only [sA_same, sA_s, ud_s, Int.reduceEq, if_true, if_false, ite_true, ite_false, ↓reduceIte, and_true, true_and, eq_self, Int.add_zero, Int.reduceAdd]; omega) | (simp (disch := omega) only [sA_same, sA_ne, ud_eq, ud_ne, Int.add_zero, Int.reduceAdd]; omega)) hb hp ?_
    refine v_ireturn0 xB_163 dX11_told_49 xK_163 ?_
    first | exact o1 (by first | omega | (simp only [sA_same, sA_s, ud_s, Int.reduceEq, if_true, if_false, ite_true, ite_false, ↓reduceIte, and_true, true_and, eq_self, Int.add_zero, Int.reduceAdd]; omega) | (simp (disch := omega) only [sA_same, sA_ne, ud_eq, ud_ne, Int.add_zero, Int.reduceAdd]; omega)) | exact o2 (by first | omega | (simp only [sA_same, sA_s, ud_s, Int.reduceEq, if_true, if_false, ite_true, ite_false, ↓reduceIte, and_true, true_and, eq_self, Int.add_zero, Int.reduceAdd]; omega) | (simp (disch := omega) only [sA_same, sA_ne, ud_eq, ud_ne, Int.add_zero, Int.reduceAdd]; omega)) | exact o3 (by first | omega | (simp only [sA_same, sA_s, ud_s, Int.reduceEq, if_true, if_false, ite_true, ite_false, ↓reduceIte, and_true, true_and, eq_self, Int.add_zero, Int.reduceAdd]; omega) | (simp (disch := omega) only [sA_same, sA_ne, ud_eq, ud_ne, Int.add_zero, Int.reduceAdd]; omega)) | exact o4 (by first | omega | (simp only [sA_same, sA_s, ud_s, Int.reduceEq, if_true, if_false, ite_true, ite_false, ↓reduceIte, and_true, true_and, eq_self, Int.add_zero, Int.reduceAdd]; omega) | (simp (disch := omega) only [sA_same, sA_ne, ud_eq, ud_ne, Int.add_zero, Int.reduceAdd]; omega)) | exact o5 (by first | omega | (simp only [sA_same, sA_s, ud_s, Int.reduceEq, if_true, if_false, ite_true, ite_false, ↓reduceIte, and_true, true_and, eq_self, Int.add_zero, Int.reduceAdd]; omega) | (simp (disch := omega) only [sA_same, sA_ne, ud_eq, ud_ne, Int.add_zero, Int.reduceAdd]; omega))
  refine ts_c (lo' := 4) rfl (fun g4 => ?_) (fun g4 => ?_)
  · refine jm_go (t := 50) (by decide) rfl ?_
    refine v_aload_n (n := 51) xB_163 dX11_told_50 rfl rfl ?_
    refine v_call_v (n := 54) xB_163 dX11_told_51 xO_163 iv_11_324 rfl (sh_81 _ _ _) rfl rfl rfl ?_
    refine c_missing (by omega) (by first | omega | (simp only [sA_same, sA_s, ud_s, Int.reduceEq, if_true, if_false, ite_true, ite_false, ↓reduceIte, and_true, true_and, eq_self, Int.add_zero, Int.reduceAdd]; omega) | (simp (disch := omega) only [sA_same, sA_ne, ud_eq, ud_ne, Int.add_zero, Int.reduceAdd]; omega)) hb hp ?_
    refine v_ireturn0 xB_163 dX11_told_54 xK_163 ?_
    first | exact o1 (by first | omega | (simp only [sA_same, sA_s, ud_s, Int.reduceEq, if_true, if_false, ite_true, ite_false, ↓reduceIte, and_true, true_and, eq_self, Int.add_zero, Int.reduceAdd]; omega) | (simp (disch := omega) only [sA_same, sA_ne, ud_eq, ud_ne, Int.add_zero, Int.reduceAdd]; omega)) | exact o2 (by first | omega | (simp only [sA_same, sA_s, ud_s, Int.reduceEq, if_true, if_false, ite_true, ite_false, ↓reduceIte, and_true, true_and, eq_self, Int.add_zero, Int.reduceAdd]; omega) | (simp (disch := omega) only [sA_same, sA_ne, ud_eq, ud_ne, Int.add_zero, Int.reduceAdd]; omega)) | exact o3 (by first | omega | (simp only [sA_same, sA_s, ud_s, Int.reduceEq, if_true, if_false, ite_true, ite_false, ↓reduceIte, and_true, true_and, eq_self, Int.add_zero, Int.reduceAdd]; omega) | (simp (disch := omega) only [sA_same, sA_ne, ud_eq, ud_ne, Int.add_zero, Int.reduceAdd]; omega)) | exact o4 (by first | omega | (simp only [sA_same, sA_s, ud_s, Int.reduceEq, if_true, if_false, ite_true, ite_false, ↓reduceIte, and_true, true_and, eq_self, Int.add_zero, Int.reduceAdd]; omega) | (simp (disch := omega) only [sA_same, sA_ne, ud_eq, ud_ne, Int.add_zero, Int.reduceAdd]; omega)) | exact o5 (by first | omega | (simp only [sA_same, sA_s, ud_s, Int.reduceEq, if_true, if_false, ite_true, ite_false, ↓reduceIte, and_true, true_and, eq_self, Int.add_zero, Int.reduceAdd]; omega) | (simp (disch := omega) only [sA_same, sA_ne, ud_eq, ud_ne, Int.add_zero, Int.reduceAdd]; omega))
  refine ts_n ?_
  refine jm_go (t := 55) (by decide) rfl ?_
  refine v_iconst (n := 56) xB_163 dX11_told_55 ⟨by decide, by decide⟩ rfl ?_
  refine v_ireturn0 xB_163 dX11_told_56 xK_163 ?_
  first | exact o1 (by first | omega | (simp only [sA_same, sA_s, ud_s, Int.reduceEq, if_true, if_false, ite_true, ite_false, ↓reduceIte, and_true, true_and, eq_self, Int.add_zero, Int.reduceAdd]; omega) | (simp (disch := omega) only [sA_same, sA_ne, ud_eq, ud_ne, Int.add_zero, Int.reduceAdd]; omega)) | exact o2 (by first | omega | (simp only [sA_same, sA_s, ud_s, Int.reduceEq, if_true, if_false, ite_true, ite_false, ↓reduceIte, and_true, true_and, eq_self, Int.add_zero, Int.reduceAdd]; omega) | (simp (disch := omega) only [sA_same, sA_ne, ud_eq, ud_ne, Int.add_zero, Int.reduceAdd]; omega)) | exact o3 (by first | omega | (simp only [sA_same, sA_s, ud_s, Int.reduceEq, if_true, if_false, ite_true, ite_false, ↓reduceIte, and_true, true_and, eq_self, Int.add_zero, Int.reduceAdd]; omega) | (simp (disch := omega) only [sA_same, sA_ne, ud_eq, ud_ne, Int.add_zero, Int.reduceAdd]; omega)) | exact o4 (by first | omega | (simp only [sA_same, sA_s, ud_s, Int.reduceEq, if_true, if_false, ite_true, ite_false, ↓reduceIte, and_true, true_and, eq_self, Int.add_zero, Int.reduceAdd]; omega) | (simp (disch := omega) only [sA_same, sA_ne, ud_eq, ud_ne, Int.add_zero, Int.reduceAdd]; omega)) | exact o5 (by first | omega | (simp only [sA_same, sA_s, ud_s, Int.reduceEq, if_true, if_false, ite_true, ite_false, ↓reduceIte, and_true, true_and, eq_self, Int.add_zero, Int.reduceAdd]; omega) | (simp (disch := omega) only [sA_same, sA_ne, ud_eq, ud_ne, Int.add_zero, Int.reduceAdd]; omega))
set_option maxHeartbeats 1000000 in
theorem c_jobs {d : Nat} {j w : Int} {CL : CLs} {m : PM} {dy : List (Nat × Nat)} {L : Nat} {Q : Option PV → PS → Prop} (hd : 4 ≤ d) (hJ5 : 0 ≤ m 81 5 ∧ m 81 5 ≤ 6) (hJ : 0 ≤ j → j < m 81 5 → JR m j CL) (o1 : (¬ ((0 ≤ j ∧ j < m 81 5) ∧ 0 ≤ w ∧ w ≤ 1)) → Q (some (.inl (-1))) (m, (none, (dy, L)))) (o2 : (((0 ≤ j ∧ j < m 81 5) ∧ w = 0)) → Q (some (.inl (frW CL))) (m, (none, (dy, L)))) (o3 : (((0 ≤ j ∧ j < m 81 5) ∧ w = 1)) → Q (some (.inl (tlW CL))) (m, (none, (dy, L)))) : C d 146 [.inr (.inr 81), .inl j, .inl w] (m, (none, (dy, L))) Q := by
  refine C_go (k := 3) hd xL_146 (fun d hd => ?_)
  show V d 146 (0, ([some (.inr (.inr 81)), some (.inl j), some (.inl w)], ([], (m, (none, (dy, L)))))) Q
  refine v_aload_n (n := 1) xB_146 dX11_jobs_0 rfl rfl ?_
  refine v_iload_n (n := 2) xB_146 dX11_jobs_1 rfl rfl ?_
  refine v_call_v (n := 5) xB_146 dX11_jobs_2 xO_146 iv_11_283 rfl (sh_81 _ _ _) rfl rfl rfl ?_
  refine c_isJob (by omega) (by first | omega | (simp only [sA_same, sA_s, ud_s, Int.reduceEq, if_true, if_false, ite_true, ite_false, ↓reduceIte, and_true, true_and, eq_self, Int.add_zero, Int.reduceAdd]; omega) | (simp (disch := omega) only [sA_same, sA_ne, ud_eq, ud_ne, Int.add_zero, Int.reduceAdd]; omega)) (fun g1 => ?_) (fun g2 => ?_)
  · refine v_if_eq_n (n := 8) xB_146 dX11_jobs_5 (by decide) rfl (by decide) ?_
    refine v_aload_n (n := 9) xB_146 dX11_jobs_8 rfl rfl ?_
    refine v_iload_n (n := 10) xB_146 dX11_jobs_9 rfl rfl ?_
    refine v_iconst (n := 11) xB_146 dX11_jobs_10 ⟨by decide, by decide⟩ rfl ?_
    refine v_iconst (n := 12) xB_146 dX11_jobs_11 ⟨by decide, by decide⟩ rfl ?_
    refine v_call_v (n := 15) xB_146 dX11_jobs_12 xO_146 iv_11_221 rfl (sh_81 _ _ _) rfl rfl rfl ?_
    refine c_in (by omega)  (fun g3 => ?_) (fun g4 => ?_)
    · refine v_if_ne_y (t := 20) xB_146 dX11_jobs_15 (by decide) rfl (by decide) ?_
      refine v_iload_n (n := 21) xB_146 dX11_jobs_20 rfl rfl ?_
      refine v_if_ne (t := 32) (n := 24) xB_146 dX11_jobs_21 (by decide) rfl rfl (fun g5 => ?_) (fun g5 => ?_)
      · refine v_aload_n (n := 33) xB_146 dX11_jobs_32 rfl rfl ?_
        refine v_iload_n (n := 34) xB_146 dX11_jobs_33 rfl rfl ?_
        refine v_call_v (n := 37) xB_146 dX11_jobs_34 xO_146 iv_11_289 rfl (sh_81 _ _ _) rfl rfl rfl ?_
        refine c_last (by omega) (by first | omega | (simp only [sA_same, sA_s, ud_s, Int.reduceEq, if_true, if_false, ite_true, ite_false, ↓reduceIte, and_true, true_and, eq_self, Int.add_zero, Int.reduceAdd]; omega) | (simp (disch := omega) only [sA_same, sA_ne, ud_eq, ud_ne, Int.add_zero, Int.reduceAdd]; omega)) (hJ (by omega) (by omega)) ?_
        refine v_ireturn0 xB_146 dX11_jobs_37 xK_146 ?_
        first | exact o1 (by first | omega | (simp only [sA_same, sA_s, ud_s, Int.reduceEq, if_true, if_false, ite_true, ite_false, ↓reduceIte, and_true, true_and, eq_self, Int.add_zero, Int.reduceAdd]; omega) | (simp (disch := omega) only [sA_same, sA_ne, ud_eq, ud_ne, Int.add_zero, Int.reduceAdd]; omega)) | exact o2 (by first | omega | (simp only [sA_same, sA_s, ud_s, Int.reduceEq, if_true, if_false, ite_true, ite_false, ↓reduceIte, and_true, true_and, eq_self, Int.add_zero, Int.reduceAdd]; omega) | (simp (disch := omega) only [sA_same, sA_ne, ud_eq, ud_ne, Int.add_zero, Int.reduceAdd]; omega)) | exact o3 (by first | omega | (simp only [sA_same, sA_s, ud_s, Int.reduceEq, if_true, if_false, ite_true, ite_false, ↓reduceIte, and_true, true_and, eq_self, Int.add_zero, Int.reduceAdd]; omega) | (simp (disch := omega) only [sA_same, sA_ne, ud_eq, ud_ne, Int.add_zero, Int.reduceAdd]; omega))
      · refine v_aload_n (n := 25) xB_146 dX11_jobs_24 rfl rfl ?_
        refine v_iload_n (n := 26) xB_146 dX11_jobs_25 rfl rfl ?_
        refine v_call_v (n := 29) xB_146 dX11_jobs_26 xO_146 iv_11_286 rfl (sh_81 _ _ _) rfl rfl rfl ?_
        refine c_first (by omega) (by first | omega | (simp only [sA_same, sA_s, ud_s, Int.reduceEq, if_true, if_false, ite_true, ite_false, ↓reduceIte, and_true, true_and, eq_self, Int.add_zero, Int.reduceAdd]; omega) | (simp (disch := omega) only [sA_same, sA_ne, ud_eq, ud_ne, Int.add_zero, Int.reduceAdd]; omega)) (hJ (by omega) (by omega)) ?_
        refine v_goto (t := 37) xB_146 dX11_jobs_29 (by decide) rfl ?_
        refine v_ireturn0 xB_146 dX11_jobs_37 xK_146 ?_
        first | exact o1 (by first | omega | (simp only [sA_same, sA_s, ud_s, Int.reduceEq, if_true, if_false, ite_true, ite_false, ↓reduceIte, and_true, true_and, eq_self, Int.add_zero, Int.reduceAdd]; omega) | (simp (disch := omega) only [sA_same, sA_ne, ud_eq, ud_ne, Int.add_zero, Int.reduceAdd]; omega)) | exact o2 (by first | omega | (simp only [sA_same, sA_s, ud_s, Int.reduceEq, if_true, if_false, ite_true, ite_false, ↓reduceIte, and_true, true_and, eq_self, Int.add_zero, Int.reduceAdd]; omega) | (simp (disch := omega) only [sA_same, sA_ne, ud_eq, ud_ne, Int.add_zero, Int.reduceAdd]; omega)) | exact o3 (by first | omega | (simp only [sA_same, sA_s, ud_s, Int.reduceEq, if_true, if_false, ite_true, ite_false, ↓reduceIte, and_true, true_and, eq_self, Int.add_zero, Int.reduceAdd]; omega) | (simp (disch := omega) only [sA_same, sA_ne, ud_eq, ud_ne, Int.add_zero, Int.reduceAdd]; omega))
    · refine v_if_ne_n (n := 18) xB_146 dX11_jobs_15 (by decide) rfl (by decide) ?_
      refine v_iconst (n := 19) xB_146 dX11_jobs_18 ⟨by decide, by decide⟩ rfl ?_
      refine v_ireturn0 xB_146 dX11_jobs_19 xK_146 ?_
      first | exact o1 (by first | omega | (simp only [sA_same, sA_s, ud_s, Int.reduceEq, if_true, if_false, ite_true, ite_false, ↓reduceIte, and_true, true_and, eq_self, Int.add_zero, Int.reduceAdd]; omega) | (simp (disch := omega) only [sA_same, sA_ne, ud_eq, ud_ne, Int.add_zero, Int.reduceAdd]; omega)) | exact o2 (by first | omega | (simp only [sA_same, sA_s, ud_s, Int.reduceEq, if_true, if_false, ite_true, ite_false, ↓reduceIte, and_true, true_and, eq_self, Int.add_zero, Int.reduceAdd]; omega) | (simp (disch := omega) only [sA_same, sA_ne, ud_eq, ud_ne, Int.add_zero, Int.reduceAdd]; omega)) | exact o3 (by first | omega | (simp only [sA_same, sA_s, ud_s, Int.reduceEq, if_true, if_false, ite_true, ite_false, ↓reduceIte, and_true, true_and, eq_self, Int.add_zero, Int.reduceAdd]; omega) | (simp (disch := omega) only [sA_same, sA_ne, ud_eq, ud_ne, Int.add_zero, Int.reduceAdd]; omega))
  · refine v_if_eq_y (t := 18) xB_146 dX11_jobs_5 (by decide) rfl (by decide) ?_
    refine v_iconst (n := 19) xB_146 dX11_jobs_18 ⟨by decide, by decide⟩ rfl ?_
    refine v_ireturn0 xB_146 dX11_jobs_19 xK_146 ?_
    first | exact o1 (by first | omega | (simp only [sA_same, sA_s, ud_s, Int.reduceEq, if_true, if_false, ite_true, ite_false, ↓reduceIte, and_true, true_and, eq_self, Int.add_zero, Int.reduceAdd]; omega) | (simp (disch := omega) only [sA_same, sA_ne, ud_eq, ud_ne, Int.add_zero, Int.reduceAdd]; omega)) | exact o2 (by first | omega | (simp only [sA_same, sA_s, ud_s, Int.reduceEq, if_true, if_false, ite_true, ite_false, ↓reduceIte, and_true, true_and, eq_self, Int.add_zero, Int.reduceAdd]; omega) | (simp (disch := omega) only [sA_same, sA_ne, ud_eq, ud_ne, Int.add_zero, Int.reduceAdd]; omega)) | exact o3 (by first | omega | (simp only [sA_same, sA_s, ud_s, Int.reduceEq, if_true, if_false, ite_true, ite_false, ↓reduceIte, and_true, true_and, eq_self, Int.add_zero, Int.reduceAdd]; omega) | (simp (disch := omega) only [sA_same, sA_ne, ud_eq, ud_ne, Int.add_zero, Int.reduceAdd]; omega))
set_option maxHeartbeats 1000000 in
theorem c_find {d : Nat} {g : Int} {m : PM} {dy : List (Nat × Nat)} {L : Nat} {Q : Option PV → PS → Prop} (hd : 2 ≤ d) (hN : 0 ≤ m 81 22 ∧ m 81 22 ≤ 12) (hb : bl (m 99)) (hp : pgs (m 96)) (o1 : (¬ (1 ≤ g ∧ g ≤ 60)) → Q (some (.inl (-2))) (m, (none, (dy, L)))) (o2 : (1 ≤ g ∧ g ≤ 60) → Q (some (.inl (whF (m 81 22) (pkA (m 96) (m 99)) g))) (m, (none, (dy, L)))) : C d 179 [.inr (.inr 81), .inl g] (m, (none, (dy, L))) Q := by
  refine C_go (k := 1) hd xL_179 (fun d hd => ?_)
  show V d 179 (0, ([some (.inr (.inr 81)), some (.inl g), none], ([], (m, (none, (dy, L)))))) Q
  refine v_aload_n (n := 1) xB_179 dX11_find_0 rfl rfl ?_
  refine v_iload_n (n := 2) xB_179 dX11_find_1 rfl rfl ?_
  refine v_iconst (n := 3) xB_179 dX11_find_2 ⟨by decide, by decide⟩ rfl ?_
  refine v_bipush (n := 5) xB_179 dX11_find_3 ⟨by decide, by decide⟩ rfl ?_
  refine v_call_v (n := 8) xB_179 dX11_find_5 xO_179 iv_11_221 rfl (sh_81 _ _ _) rfl rfl rfl ?_
  refine c_in (by omega)  (fun g1 => ?_) (fun g2 => ?_)
  · refine v_if_ne_y (t := 14) xB_179 dX11_find_8 (by decide) rfl (by decide) ?_
    refine v_iconst (n := 15) xB_179 dX11_find_14 ⟨by decide, by decide⟩ rfl ?_
    refine v_istore_n2 (n := 16) xB_179 dX11_find_15 rfl rfl ?_
    refine lp_up (F := fun (k : Int) (m' : PM) => V d 179 (16, ([some (.inr (.inr 81)), some (.inl g), some (.inl (k))], ([], (m', (none, (dy, L)))))) Q) (E := fun (k : Int) (m' : PM) => m = m' ∧ fs (fun k => decide (pgk (pkA (m 96) (m 99)) k = g)) (fun k => 10 * (k / 2) + k % 2) (2 * m 81 22 - (k)).toNat (k) = whF (m 81 22) (pkA (m 96) (m 99)) g) (a := 0) (b := 2 * m 81 22) ?_ ?_ (0) (m) (by first | omega | (simp only [sA_same, sA_s, ud_s, Int.reduceEq, if_true, if_false, ite_true, ite_false, ↓reduceIte, and_true, true_and, eq_self, Int.add_zero, Int.reduceAdd]; omega) | (simp (disch := omega) only [sA_same, sA_ne, ud_eq, ud_ne, Int.add_zero, Int.reduceAdd]; omega)) (by first | omega | (simp only [sA_same, sA_s, ud_s, Int.reduceEq, if_true, if_false, ite_true, ite_false, ↓reduceIte, and_true, true_and, eq_self, Int.add_zero, Int.reduceAdd]; omega) | (simp (disch := omega) only [sA_same, sA_ne, ud_eq, ud_ne, Int.add_zero, Int.reduceAdd]; omega)) ?_
    · intro m' hm 
      show V d 179 (16, ([some (.inr (.inr 81)), some (.inl g), some (.inl (2 * m 81 22))], ([], (m', (none, (dy, L)))))) Q
      obtain ⟨rfl, hw⟩ := hm
      rw [fs_end (by omega)] at hw
      refine v_iload_n (n := 17) xB_179 dX11_find_16 rfl rfl ?_
      refine v_iconst (n := 18) xB_179 dX11_find_17 ⟨by decide, by decide⟩ rfl ?_
      refine v_aload_n (n := 19) xB_179 dX11_find_18 rfl rfl ?_
      refine v_gf_i (n := 22) (kz := 22) xB_179 dX11_find_19 xO_179 fl_11_78 fg_11_22 rfl (sh_81 _ _ _) rfl rfl ?_
      refine v_imul (n := 23) xB_179 dX11_find_22 (by first | omega | (simp only [sA_same, sA_s, ud_s, Int.reduceEq, if_true, if_false, ite_true, ite_false, ↓reduceIte, and_true, true_and, eq_self, Int.add_zero, Int.reduceAdd]; omega) | (simp (disch := omega) only [sA_same, sA_ne, ud_eq, ud_ne, Int.add_zero, Int.reduceAdd]; omega)) rfl ?_
      refine v_ic_ge_y (t := 53) xB_179 dX11_find_23 (by decide) rfl (by first | omega | (simp only [sA_same, sA_s, ud_s, Int.reduceEq, if_true, if_false, ite_true, ite_false, ↓reduceIte, and_true, true_and, eq_self, Int.add_zero, Int.reduceAdd]; omega) | (simp (disch := omega) only [sA_same, sA_ne, ud_eq, ud_ne, Int.add_zero, Int.reduceAdd]; omega)) ?_
      refine v_bipush (n := 55) xB_179 dX11_find_53 ⟨by decide, by decide⟩ rfl ?_
      refine v_ireturn0 xB_179 dX11_find_55 xK_179 ?_
      rw [← hw] at o2
      first | exact o2 (by omega) | (rw [fs_at (by omega) (by omega) (decide_eq_true (by rw [pgk_pk hp hb]; omega))] at o2; exact o2 (by omega))
    · intro k m' h1 h2 hm ih 
      show V d 179 (16, ([some (.inr (.inr 81)), some (.inl g), some (.inl (k))], ([], (m', (none, (dy, L)))))) Q
      obtain ⟨rfl, hw⟩ := hm
      refine v_iload_n (n := 17) xB_179 dX11_find_16 rfl rfl ?_
      refine v_iconst (n := 18) xB_179 dX11_find_17 ⟨by decide, by decide⟩ rfl ?_
      refine v_aload_n (n := 19) xB_179 dX11_find_18 rfl rfl ?_
      refine v_gf_i (n := 22) (kz := 22) xB_179 dX11_find_19 xO_179 fl_11_78 fg_11_22 rfl (sh_81 _ _ _) rfl rfl ?_
      refine v_imul (n := 23) xB_179 dX11_find_22 (by first | omega | (simp only [sA_same, sA_s, ud_s, Int.reduceEq, if_true, if_false, ite_true, ite_false, ↓reduceIte, and_true, true_and, eq_self, Int.add_zero, Int.reduceAdd]; omega) | (simp (disch := omega) only [sA_same, sA_ne, ud_eq, ud_ne, Int.add_zero, Int.reduceAdd]; omega)) rfl ?_
      refine v_ic_ge_n (n := 26) xB_179 dX11_find_23 (by decide) rfl (by first | omega | (simp only [sA_same, sA_s, ud_s, Int.reduceEq, if_true, if_false, ite_true, ite_false, ↓reduceIte, and_true, true_and, eq_self, Int.add_zero, Int.reduceAdd]; omega) | (simp (disch := omega) only [sA_same, sA_ne, ud_eq, ud_ne, Int.add_zero, Int.reduceAdd]; omega)) ?_
      refine v_aload_n (n := 27) xB_179 dX11_find_26 rfl rfl ?_
      refine v_gf_s (n := 30) (kz := 23) xB_179 dX11_find_27 xO_179 fl_11_81 fg_11_23 (sh_81 _ _ _) rfl st_81_23 rfl ?_
      refine v_iload_n (n := 31) xB_179 dX11_find_30 rfl rfl ?_
      refine v_iaload (n := 32) (lz := 24) xB_179 dX11_find_31 (sh_96 _ _ _) rfl (by first | omega | (simp only [sA_same, sA_s, ud_s, Int.reduceEq, if_true, if_false, ite_true, ite_false, ↓reduceIte, and_true, true_and, eq_self, Int.add_zero, Int.reduceAdd]; omega) | (simp (disch := omega) only [sA_same, sA_ne, ud_eq, ud_ne, Int.add_zero, Int.reduceAdd]; omega)) rfl ?_
      refine v_iload_n (n := 33) xB_179 dX11_find_32 rfl rfl ?_
      refine v_ic_ne (t := 47) (n := 36) xB_179 dX11_find_33 (by decide) rfl rfl (fun g1 => ?_) (fun g1 => ?_)
      · refine v_iinc2 (n := 50) xB_179 dX11_find_47 rfl (by first | omega | (simp only [sA_same, sA_s, ud_s, Int.reduceEq, if_true, if_false, ite_true, ite_false, ↓reduceIte, and_true, true_and, eq_self, Int.add_zero, Int.reduceAdd]; omega) | (simp (disch := omega) only [sA_same, sA_ne, ud_eq, ud_ne, Int.add_zero, Int.reduceAdd]; omega)) rfl ?_
        refine v_goto (t := 16) xB_179 dX11_find_50 (by decide) rfl ?_
        refine ih _ ⟨rfl, ?_⟩
        rw [← hw]
        exact (fs_to (N := 2 * m 81 22) (k := k) (by omega) (by omega) (decide_eq_false (by rw [pgk_pk hp hb]; omega))).symm
      · refine v_bipush (n := 38) xB_179 dX11_find_36 ⟨by decide, by decide⟩ rfl ?_
        refine v_iload_n (n := 39) xB_179 dX11_find_38 rfl rfl ?_
        refine v_iconst (n := 40) xB_179 dX11_find_39 ⟨by decide, by decide⟩ rfl ?_
        refine v_idiv (n := 41) xB_179 dX11_find_40 (by first | omega | (simp only [sA_same, sA_s, ud_s, Int.reduceEq, if_true, if_false, ite_true, ite_false, ↓reduceIte, and_true, true_and, eq_self, Int.add_zero, Int.reduceAdd]; omega) | (simp (disch := omega) only [sA_same, sA_ne, ud_eq, ud_ne, Int.add_zero, Int.reduceAdd]; omega)) rfl ?_
        refine v_imul (n := 42) xB_179 dX11_find_41 (by first | omega | (simp only [sA_same, sA_s, ud_s, Int.reduceEq, if_true, if_false, ite_true, ite_false, ↓reduceIte, and_true, true_and, eq_self, Int.add_zero, Int.reduceAdd]; omega) | (simp (disch := omega) only [sA_same, sA_ne, ud_eq, ud_ne, Int.add_zero, Int.reduceAdd]; omega)) rfl ?_
        refine v_iload_n (n := 43) xB_179 dX11_find_42 rfl rfl ?_
        refine v_iconst (n := 44) xB_179 dX11_find_43 ⟨by decide, by decide⟩ rfl ?_
        refine v_irem (n := 45) xB_179 dX11_find_44 (by first | omega | (simp only [sA_same, sA_s, ud_s, Int.reduceEq, if_true, if_false, ite_true, ite_false, ↓reduceIte, and_true, true_and, eq_self, Int.add_zero, Int.reduceAdd]; omega) | (simp (disch := omega) only [sA_same, sA_ne, ud_eq, ud_ne, Int.add_zero, Int.reduceAdd]; omega)) rfl ?_
        refine v_iadd (n := 46) xB_179 dX11_find_45 (by first | omega | (simp only [sA_same, sA_s, ud_s, Int.reduceEq, if_true, if_false, ite_true, ite_false, ↓reduceIte, and_true, true_and, eq_self, Int.add_zero, Int.reduceAdd]; omega) | (simp (disch := omega) only [sA_same, sA_ne, ud_eq, ud_ne, Int.add_zero, Int.reduceAdd]; omega)) rfl ?_
        refine v_ireturn0 xB_179 dX11_find_46 xK_179 ?_
        rw [← hw] at o2
        first | exact o2 (by omega) | (rw [fs_at (by omega) (by omega) (decide_eq_true (by rw [pgk_pk hp hb]; omega))] at o2; exact o2 (by omega))
    · exact ⟨rfl, by unfold whF; rw [show 2 * m 81 22 - 0 = 2 * m 81 22 by omega]⟩
  · refine v_if_ne_n (n := 11) xB_179 dX11_find_8 (by decide) rfl (by decide) ?_
    refine v_bipush (n := 13) xB_179 dX11_find_11 ⟨by decide, by decide⟩ rfl ?_
    refine v_ireturn0 xB_179 dX11_find_13 xK_179 ?_
    first | exact o1 (by first | omega | (simp only [sA_same, sA_s, ud_s, Int.reduceEq, if_true, if_false, ite_true, ite_false, ↓reduceIte, and_true, true_and, eq_self, Int.add_zero, Int.reduceAdd]; omega) | (simp (disch := omega) only [sA_same, sA_ne, ud_eq, ud_ne, Int.add_zero, Int.reduceAdd]; omega)) | exact o2 (by first | omega | (simp only [sA_same, sA_s, ud_s, Int.reduceEq, if_true, if_false, ite_true, ite_false, ↓reduceIte, and_true, true_and, eq_self, Int.add_zero, Int.reduceAdd]; omega) | (simp (disch := omega) only [sA_same, sA_ne, ud_eq, ud_ne, Int.add_zero, Int.reduceAdd]; omega))
