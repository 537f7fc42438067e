/-! Judging: the class against the reference. -/
set_option maxHeartbeats 2000000 in
theorem p_judge (m0 : PM) (L : Nat) (t i : Int) (hi : -2147483648 ≤ i ∧ i < 2147483648) : PairI m0 L 107 195 [.inr (.inr 0), .inl t, .inl i] [.inr (.inr 81), .inl t, .inl i] := by
  intro m dy h D W hD hW
  have h0 := h
  obtain ⟨hSt, hSc, hTr, hSe, hPl, hBo, hIm, hHm, hTx, hAc, hTp, hJb, hCo⟩ := h
  have s1 := hSt.1
  have s2 := hSt.2.1
  have u1 : 0 ≤ t → t < 6 → m (69 + 2 * t) 0 = m 125 t := fun a b => (hTp t a b).1
  have u2 : 0 ≤ t → t < 6 → m (69 + 2 * t) 1 = m 126 t := fun a b => (hTp t a b).2.1
  have u4 : 0 ≤ t → t < 6 → -1 ≤ m 125 t ∧ m 125 t ≤ 4 := fun a b => (hTp t a b).2.2.2.1
  have u5 : 0 ≤ t → t < 6 → 0 ≤ m 126 t ∧ m 126 t ≤ 60 := fun a b => (hTp t a b).2.2.2.2.1
  have u6 : 0 ≤ t → t < 6 → m 125 t = -1 → m 126 t = 0 := fun a b => (hTp t a b).2.2.2.2.2
  have u7 : 0 ≤ t → t < 6 → ∀ {j : Int}, 0 ≤ j → j < 60 → m (70 + 2 * t) j = m 127 (60 * t + j) := fun a b {j} c e => (hTp t a b).2.2.1 j c e
  refine C_go (k := 55) (by omega) xL_107 (fun d hd => ?_)
  show V d 107 (0, ([some (.inr (.inr 0)), some (.inl t), some (.inl i), none, none], ([], (m, (none, (dy, L)))))) W
  refine v_iload_n (n := 1) xB_107 dX10_judge_0 rfl rfl ?_
  refine v_call_s (n := 4) xB_107 dX10_judge_1 xO_107 sp_10_255 (Or.inl rfl) iv_10_255 rfl rfl rfl rfl ?_
  refine k_isTape (by omega)  (fun g1 => ?_) (fun g2 => ?_)
  · refine v_if_ne_y (t := 9) xB_107 dX10_judge_4 (by decide) rfl (by decide) ?_
    refine v_aload_n (n := 10) xB_107 dX10_judge_9 rfl rfl ?_
    refine v_gf_s (n := 13) (kz := 10) xB_107 dX10_judge_10 xO_107 fl_10_60 fg_10_10 (sh_0 _ _ _) rfl st_0_10 rfl ?_
    refine v_iload_n (n := 14) xB_107 dX10_judge_13 rfl rfl ?_
    refine v_aald_s (n := 15) (lz := 6) xB_107 dX10_judge_14 (sh_68 _ _ _) (by decide) rfl (by first | omega | (simp only [sA_same, sA_s, ud_s, Int.reduceEq, if_true, if_false, ite_true, ite_false, ↓reduceIte, and_true, true_and, eq_self, Int.add_zero, Int.reduceAdd]; omega) | (simp (disch := omega) only [sA_same, sA_ne, ud_eq, ud_ne, Int.add_zero, Int.reduceAdd]; omega)) (st_E (by omega)) rfl ?_
    refine v_astore_n3 (n := 16) xB_107 dX10_judge_15 rfl rfl ?_
    refine v_aload_n (n := 17) xB_107 dX10_judge_16 rfl rfl ?_
    refine v_call_v (n := 20) xB_107 dX10_judge_17 xO_107 iv_10_258 rfl (sh_E (by first | omega | (simp only [sA_same, sA_s, ud_s, Int.reduceEq, if_true, if_false, ite_true, ite_false, ↓reduceIte, and_true, true_and, eq_self, Int.add_zero, Int.reduceAdd]; omega) | (simp (disch := omega) only [sA_same, sA_ne, ud_eq, ud_ne, Int.add_zero, Int.reduceAdd]; omega)) _ _ _) rfl rfl rfl ?_
    refine k_isRow (by omega) (by omega) (fun g3 => ?_) (fun g4 => ?_)
    · refine v_if_eq_n (n := 23) xB_107 dX10_judge_20 (by decide) rfl (by decide) ?_
      refine v_aload_n (n := 24) xB_107 dX10_judge_23 rfl rfl ?_
      refine v_gf_i (n := 27) (kz := 0) xB_107 dX10_judge_24 xO_107 fl_10_261 fg_8_0 rfl (sh_E (by first | omega | (simp only [sA_same, sA_s, ud_s, Int.reduceEq, if_true, if_false, ite_true, ite_false, ↓reduceIte, and_true, true_and, eq_self, Int.add_zero, Int.reduceAdd]; omega) | (simp (disch := omega) only [sA_same, sA_ne, ud_eq, ud_ne, Int.add_zero, Int.reduceAdd]; omega)) _ _ _) rfl rfl ?_
      refine v_if_eq (t := 33) (n := 30) xB_107 dX10_judge_27 (by decide) rfl rfl (fun g5 => ?_) (fun g5 => ?_)
      · refine v_iconst (n := 34) xB_107 dX10_judge_33 ⟨by decide, by decide⟩ rfl ?_
        refine v_istore4 (n := 36) xB_107 dX10_judge_34 rfl rfl ?_
        refine lp_up (F := fun (k : Int) (m' : PM) => V d 107 (36, ([some (.inr (.inr 0)), some (.inl t), some (.inl i), some (.inr (.inr (69 + 2 * t))), some (.inl (k))], ([], (m', (none, (dy, L)))))) W) (E := fun (k : Int) (m' : PM) => m = m' ∧ jdF (m 125 t) (m 126 t) (fun x => m 127 (60 * t + x)) (m 96) i (m 81 22 - (k)).toNat (k) = jdF (m 125 t) (m 126 t) (fun x => m 127 (60 * t + x)) (m 96) i (m 81 22 - (0)).toNat (0)) (a := 0) (b := m 81 22) ?_ ?_ (0) (m) (by first | omega | (simp only [sA_same, sA_s, ud_s, Int.reduceEq, if_true, if_false, ite_true, ite_false, ↓reduceIte, and_true, true_and, eq_self, Int.add_zero, Int.reduceAdd]; omega) | (simp (disch := omega) only [sA_same, sA_ne, ud_eq, ud_ne, Int.add_zero, Int.reduceAdd]; omega)) (by first | omega | (simp only [sA_same, sA_s, ud_s, Int.reduceEq, if_true, if_false, ite_true, ite_false, ↓reduceIte, and_true, true_and, eq_self, Int.add_zero, Int.reduceAdd]; omega) | (simp (disch := omega) only [sA_same, sA_ne, ud_eq, ud_ne, Int.add_zero, Int.reduceAdd]; omega)) ?_
        · intro m' hm 
          show V d 107 (36, ([some (.inr (.inr 0)), some (.inl t), some (.inl i), some (.inr (.inr (69 + 2 * t))), some (.inl (m 81 22))], ([], (m', (none, (dy, L)))))) W
          obtain ⟨rfl, hw⟩ := hm
          rw [show (m 81 22 - m 81 22).toNat = 0 by omega] at hw
          refine v_iload (n := 38) xB_107 dX10_judge_36 rfl rfl ?_
          refine v_aload_n (n := 39) xB_107 dX10_judge_38 rfl rfl ?_
          refine v_gf_s (n := 42) (kz := 0) xB_107 dX10_judge_39 xO_107 fl_10_12 fg_10_0 (sh_0 _ _ _) rfl st_0_0 rfl ?_
          refine v_gf_s (n := 45) (kz := 0) xB_107 dX10_judge_42 xO_107 fl_10_76 fg_6_0 (sh_1 _ _ _) rfl st_1_0 rfl ?_
          refine v_gf_i (n := 48) (kz := 1) xB_107 dX10_judge_45 xO_107 fl_10_79 fg_4_1 rfl (sh_2 _ _ _) rfl rfl ?_
          refine v_ic_ge_y (t := 115) xB_107 dX10_judge_48 (by decide) rfl (by first | omega | (simp only [sA_same, sA_s, ud_s, Int.reduceEq, if_true, if_false, ite_true, ite_false, ↓reduceIte, and_true, true_and, eq_self, Int.add_zero, Int.reduceAdd]; omega) | (simp (disch := omega) only [sA_same, sA_ne, ud_eq, ud_ne, Int.add_zero, Int.reduceAdd]; omega)) ?_
          refine v_bipush (n := 117) xB_107 dX10_judge_115 ⟨by decide, by decide⟩ rfl ?_
          refine v_ireturn0 xB_107 dX10_judge_117 xK_107 ?_
          first | (have hw2 : (-5 : Int) = _ := hw; rw [hw2]) | (rw [show (m 81 22 - k).toNat = (m 81 22 - (k + 1)).toNat + 1 by omega, jdF] at hw; rw [if_pos (by omega)] at hw; rw [hw]) | (rw [show (m 81 22 - k).toNat = (m 81 22 - (k + 1)).toNat + 1 by omega, jdF] at hw; have e1 : m (70 + 2 * t) (i + k) = m 127 (60 * t + (i + k)) := u7 (by omega) (by omega) (by omega) (by omega); have e2 : ponF (m 2 1) k 0 (m (2 + 1)) = m 96 (2 * k) := (by rw [s2, show (2 : Int) + 1 = 3 from rfl, pon_pk hSt.2.2.2.2.1 hSt.2.2.2.1 hSt.2.2.2.2.2 (by omega) (by omega), Int.add_zero]); rw [if_neg (by omega), if_neg (by have q := lc_ne (by assumption); rw [e1, e2] at q; exact q)] at hw; rw [hw])
          refine hW _ _ _ (fun D2 W2 hD2 hW2 => ?_)
          refine c_judge (by omega) (by first | omega | (simp only [sA_same, sA_s, ud_s, Int.reduceEq, if_true, if_false, ite_true, ite_false, ↓reduceIte, and_true, true_and, eq_self, Int.add_zero, Int.reduceAdd]; omega) | (simp (disch := omega) only [sA_same, sA_ne, ud_eq, ud_ne, Int.add_zero, Int.reduceAdd]; omega)) u5 (fun gg => ?_) (fun gg => ?_) (fun gg => ?_)
          all_goals first | (exfalso; omega) | exact hW2 _ h0
        · intro k m' h1 h2 hm ih 
          show V d 107 (36, ([some (.inr (.inr 0)), some (.inl t), some (.inl i), some (.inr (.inr (69 + 2 * t))), some (.inl (k))], ([], (m', (none, (dy, L)))))) W
          obtain ⟨rfl, hw⟩ := hm
          refine v_iload (n := 38) xB_107 dX10_judge_36 rfl rfl ?_
          refine v_aload_n (n := 39) xB_107 dX10_judge_38 rfl rfl ?_
          refine v_gf_s (n := 42) (kz := 0) xB_107 dX10_judge_39 xO_107 fl_10_12 fg_10_0 (sh_0 _ _ _) rfl st_0_0 rfl ?_
          refine v_gf_s (n := 45) (kz := 0) xB_107 dX10_judge_42 xO_107 fl_10_76 fg_6_0 (sh_1 _ _ _) rfl st_1_0 rfl ?_
          refine v_gf_i (n := 48) (kz := 1) xB_107 dX10_judge_45 xO_107 fl_10_79 fg_4_1 rfl (sh_2 _ _ _) rfl rfl ?_
          refine v_ic_ge_n (n := 51) xB_107 dX10_judge_48 (by decide) rfl (by first | omega | (simp only [sA_same, sA_s, ud_s, Int.reduceEq, if_true, if_false, ite_true, ite_false, ↓reduceIte, and_true, true_and, eq_self, Int.add_zero, Int.reduceAdd]; omega) | (simp (disch := omega) only [sA_same, sA_ne, ud_eq, ud_ne, Int.add_zero, Int.reduceAdd]; omega)) ?_
          refine v_aload_n (n := 52) xB_107 dX10_judge_51 rfl rfl ?_
          refine v_call_v (n := 55) xB_107 dX10_judge_52 xO_107 iv_10_258 rfl (sh_E (by first | omega | (simp only [sA_same, sA_s, ud_s, Int.reduceEq, if_true, if_false, ite_true, ite_false, ↓reduceIte, and_true, true_and, eq_self, Int.add_zero, Int.reduceAdd]; omega) | (simp (disch := omega) only [sA_same, sA_ne, ud_eq, ud_ne, Int.add_zero, Int.reduceAdd]; omega)) _ _ _) rfl rfl rfl ?_
          refine k_isRow (by omega) (by omega) (fun g1 => ?_) (fun g2 => ?_)
          · refine v_if_eq_n (n := 58) xB_107 dX10_judge_55 (by decide) rfl (by decide) ?_
            refine v_iload_n (n := 59) xB_107 dX10_judge_58 rfl rfl ?_
            refine v_if_lt (t := 73) (n := 62) xB_107 dX10_judge_59 (by decide) rfl rfl (fun g3 => ?_) (fun g3 => ?_)
            · refine v_bipush (n := 75) xB_107 dX10_judge_73 ⟨by decide, by decide⟩ rfl ?_
              refine v_iload (n := 77) xB_107 dX10_judge_75 rfl rfl ?_
              refine v_iadd (n := 78) xB_107 dX10_judge_77 (by first | omega | (simp only [sA_same, sA_s, ud_s, Int.reduceEq, if_true, if_false, ite_true, ite_false, ↓reduceIte, and_true, true_and, eq_self, Int.add_zero, Int.reduceAdd]; omega) | (simp (disch := omega) only [sA_same, sA_ne, ud_eq, ud_ne, Int.add_zero, Int.reduceAdd]; omega)) rfl ?_
              refine v_ireturn0 xB_107 dX10_judge_78 xK_107 ?_
              first | (have hw2 : (-5 : Int) = _ := hw; rw [hw2]) | (rw [show (m 81 22 - k).toNat = (m 81 22 - (k + 1)).toNat + 1 by omega, jdF] at hw; rw [if_pos (by omega)] at hw; rw [hw]) | (rw [show (m 81 22 - k).toNat = (m 81 22 - (k + 1)).toNat + 1 by omega, jdF] at hw; have e1 : m (70 + 2 * t) (i + k) = m 127 (60 * t + (i + k)) := u7 (by omega) (by omega) (by omega) (by omega); have e2 : ponF (m 2 1) k 0 (m (2 + 1)) = m 96 (2 * k) := (by rw [s2, show (2 : Int) + 1 = 3 from rfl, pon_pk hSt.2.2.2.2.1 hSt.2.2.2.1 hSt.2.2.2.2.2 (by omega) (by omega), Int.add_zero]); rw [if_neg (by omega), if_neg (by have q := lc_ne (by assumption); rw [e1, e2] at q; exact q)] at hw; rw [hw])
              refine hW _ _ _ (fun D2 W2 hD2 hW2 => ?_)
              refine c_judge (by omega) (by first | omega | (simp only [sA_same, sA_s, ud_s, Int.reduceEq, if_true, if_false, ite_true, ite_false, ↓reduceIte, and_true, true_and, eq_self, Int.add_zero, Int.reduceAdd]; omega) | (simp (disch := omega) only [sA_same, sA_ne, ud_eq, ud_ne, Int.add_zero, Int.reduceAdd]; omega)) u5 (fun gg => ?_) (fun gg => ?_) (fun gg => ?_)
              all_goals first | (exfalso; omega) | exact hW2 _ h0
            · refine v_iload_n (n := 63) xB_107 dX10_judge_62 rfl rfl ?_
              refine v_aload_n (n := 64) xB_107 dX10_judge_63 rfl rfl ?_
              refine v_gf_i (n := 67) (kz := 1) xB_107 dX10_judge_64 xO_107 fl_10_264 fg_8_1 rfl (sh_E (by first | omega | (simp only [sA_same, sA_s, ud_s, Int.reduceEq, if_true, if_false, ite_true, ite_false, ↓reduceIte, and_true, true_and, eq_self, Int.add_zero, Int.reduceAdd]; omega) | (simp (disch := omega) only [sA_same, sA_ne, ud_eq, ud_ne, Int.add_zero, Int.reduceAdd]; omega)) _ _ _) rfl rfl ?_
              refine v_iload (n := 69) xB_107 dX10_judge_67 rfl rfl ?_
              refine v_isub (n := 70) xB_107 dX10_judge_69 (by first | omega | (simp only [sA_same, sA_s, ud_s, Int.reduceEq, if_true, if_false, ite_true, ite_false, ↓reduceIte, and_true, true_and, eq_self, Int.add_zero, Int.reduceAdd]; omega) | (simp (disch := omega) only [sA_same, sA_ne, ud_eq, ud_ne, Int.add_zero, Int.reduceAdd]; omega)) rfl ?_
              refine v_ic_lt (t := 79) (n := 73) xB_107 dX10_judge_70 (by decide) rfl rfl (fun g4 => ?_) (fun g4 => ?_)
              · refine v_aload_n (n := 80) xB_107 dX10_judge_79 rfl rfl ?_
                refine v_gf_s (n := 83) (kz := 2) xB_107 dX10_judge_80 xO_107 fl_10_267 fg_8_2 (sh_E (by first | omega | (simp only [sA_same, sA_s, ud_s, Int.reduceEq, if_true, if_false, ite_true, ite_false, ↓reduceIte, and_true, true_and, eq_self, Int.add_zero, Int.reduceAdd]; omega) | (simp (disch := omega) only [sA_same, sA_ne, ud_eq, ud_ne, Int.add_zero, Int.reduceAdd]; omega)) _ _ _) rfl (st_EI (by first | omega | (simp only [sA_same, sA_s, ud_s, Int.reduceEq, if_true, if_false, ite_true, ite_false, ↓reduceIte, and_true, true_and, eq_self, Int.add_zero, Int.reduceAdd]; omega) | (simp (disch := omega) only [sA_same, sA_ne, ud_eq, ud_ne, Int.add_zero, Int.reduceAdd]; omega))) rfl ?_
                refine v_iload_n (n := 84) xB_107 dX10_judge_83 rfl rfl ?_
                refine v_iload (n := 86) xB_107 dX10_judge_84 rfl rfl ?_
                refine v_iadd (n := 87) xB_107 dX10_judge_86 (by first | omega | (simp only [sA_same, sA_s, ud_s, Int.reduceEq, if_true, if_false, ite_true, ite_false, ↓reduceIte, and_true, true_and, eq_self, Int.add_zero, Int.reduceAdd]; omega) | (simp (disch := omega) only [sA_same, sA_ne, ud_eq, ud_ne, Int.add_zero, Int.reduceAdd]; omega)) rfl ?_
                refine v_laload (n := 88) (lz := 60) xB_107 dX10_judge_87 (sh_EI (by first | omega | (simp only [sA_same, sA_s, ud_s, Int.reduceEq, if_true, if_false, ite_true, ite_false, ↓reduceIte, and_true, true_and, eq_self, Int.add_zero, Int.reduceAdd]; omega) | (simp (disch := omega) only [sA_same, sA_ne, ud_eq, ud_ne, Int.add_zero, Int.reduceAdd]; omega)) _ _ _) rfl (by first | omega | (simp only [sA_same, sA_s, ud_s, Int.reduceEq, if_true, if_false, ite_true, ite_false, ↓reduceIte, and_true, true_and, eq_self, Int.add_zero, Int.reduceAdd]; omega) | (simp (disch := omega) only [sA_same, sA_ne, ud_eq, ud_ne, Int.add_zero, Int.reduceAdd]; omega)) rfl ?_
                refine v_aload_n (n := 89) xB_107 dX10_judge_88 rfl rfl ?_
                refine v_gf_s (n := 92) (kz := 0) xB_107 dX10_judge_89 xO_107 fl_10_12 fg_10_0 (sh_0 _ _ _) rfl st_0_0 rfl ?_
                refine v_gf_s (n := 95) (kz := 0) xB_107 dX10_judge_92 xO_107 fl_10_76 fg_6_0 (sh_1 _ _ _) rfl st_1_0 rfl ?_
                refine v_iload (n := 97) xB_107 dX10_judge_95 rfl rfl ?_
                refine v_iconst (n := 98) xB_107 dX10_judge_97 ⟨by decide, by decide⟩ rfl ?_
                refine v_call_v (n := 101) xB_107 dX10_judge_98 xO_107 iv_10_144 rfl (sh_2 _ _ _) rfl rfl rfl ?_
                refine k_pageOn (by omega) (Or.inl rfl) (by rw [s2]; exact s1) (by omega) hSt.2.2.1 ?_
                refine v_i2l (n := 102) xB_107 dX10_judge_101 rfl ?_
                refine v_lcmp (n := 103) xB_107 dX10_judge_102 rfl ?_
                refine v_if_eq (t := 109) (n := 106) xB_107 dX10_judge_103 (by decide) rfl rfl (fun g5 => ?_) (fun g5 => ?_)
                · refine v_iinc4 (n := 112) xB_107 dX10_judge_109 rfl (by first | omega | (simp only [sA_same, sA_s, ud_s, Int.reduceEq, if_true, if_false, ite_true, ite_false, ↓reduceIte, and_true, true_and, eq_self, Int.add_zero, Int.reduceAdd]; omega) | (simp (disch := omega) only [sA_same, sA_ne, ud_eq, ud_ne, Int.add_zero, Int.reduceAdd]; omega)) rfl ?_
                  refine v_goto (t := 36) xB_107 dX10_judge_112 (by decide) rfl ?_
                  rw [show (m 81 22 - k).toNat = (m 81 22 - (k + 1)).toNat + 1 by omega, jdF] at hw
                  have e1 : m (70 + 2 * t) (i + k) = m 127 (60 * t + (i + k)) := u7 (by omega) (by omega) (by omega) (by omega)
                  have e2 : ponF (m 2 1) k 0 (m (2 + 1)) = m 96 (2 * k) := by rw [s2, show (2 : Int) + 1 = 3 from rfl, pon_pk hSt.2.2.2.2.1 hSt.2.2.2.1 hSt.2.2.2.2.2 (by omega) (by omega), Int.add_zero]
                  rw [if_neg (by omega), if_pos (by have q := lc_eq (by assumption); rw [e1, e2] at q; exact q)] at hw
                  exact ih _ ⟨rfl, hw⟩
                · refine v_iload (n := 108) xB_107 dX10_judge_106 rfl rfl ?_
                  refine v_ireturn0 xB_107 dX10_judge_108 xK_107 ?_
                  first | (have hw2 : (-5 : Int) = _ := hw; rw [hw2]) | (rw [show (m 81 22 - k).toNat = (m 81 22 - (k + 1)).toNat + 1 by omega, jdF] at hw; rw [if_pos (by omega)] at hw; rw [hw]) | (rw [show (m 81 22 - k).toNat = (m 81 22 - (k + 1)).toNat + 1 by omega, jdF] at hw; have e1 : m (70 + 2 * t) (i + k) = m 127 (60 * t + (i + k)) := u7 (by omega) (by omega) (by omega) (by omega); have e2 : ponF (m 2 1) k 0 (m (2 + 1)) = m 96 (2 * k) := (by rw [s2, show (2 : Int) + 1 = 3 from rfl, pon_pk hSt.2.2.2.2.1 hSt.2.2.2.1 hSt.2.2.2.2.2 (by omega) (by omega), Int.add_zero]); rw [if_neg (by omega), if_neg (by have q := lc_ne (by assumption); rw [e1, e2] at q; exact q)] at hw; rw [hw])
                  refine hW _ _ _ (fun D2 W2 hD2 hW2 => ?_)
                  refine c_judge (by omega) (by first | omega | (simp only [sA_same, sA_s, ud_s, Int.reduceEq, if_true, if_false, ite_true, ite_false, ↓reduceIte, and_true, true_and, eq_self, Int.add_zero, Int.reduceAdd]; omega) | (simp (disch := omega) only [sA_same, sA_ne, ud_eq, ud_ne, Int.add_zero, Int.reduceAdd]; omega)) u5 (fun gg => ?_) (fun gg => ?_) (fun gg => ?_)
                  all_goals first | (exfalso; omega) | exact hW2 _ h0
              · refine v_bipush (n := 75) xB_107 dX10_judge_73 ⟨by decide, by decide⟩ rfl ?_
                refine v_iload (n := 77) xB_107 dX10_judge_75 rfl rfl ?_
                refine v_iadd (n := 78) xB_107 dX10_judge_77 (by first | omega | (simp only [sA_same, sA_s, ud_s, Int.reduceEq, if_true, if_false, ite_true, ite_false, ↓reduceIte, and_true, true_and, eq_self, Int.add_zero, Int.reduceAdd]; omega) | (simp (disch := omega) only [sA_same, sA_ne, ud_eq, ud_ne, Int.add_zero, Int.reduceAdd]; omega)) rfl ?_
                refine v_ireturn0 xB_107 dX10_judge_78 xK_107 ?_
                first | (have hw2 : (-5 : Int) = _ := hw; rw [hw2]) | (rw [show (m 81 22 - k).toNat = (m 81 22 - (k + 1)).toNat + 1 by omega, jdF] at hw; rw [if_pos (by omega)] at hw; rw [hw]) | (rw [show (m 81 22 - k).toNat = (m 81 22 - (k + 1)).toNat + 1 by omega, jdF] at hw; have e1 : m (70 + 2 * t) (i + k) = m 127 (60 * t + (i + k)) := u7 (by omega) (by omega) (by omega) (by omega); have e2 : ponF (m 2 1) k 0 (m (2 + 1)) = m 96 (2 * k) := (by rw [s2, show (2 : Int) + 1 = 3 from rfl, pon_pk hSt.2.2.2.2.1 hSt.2.2.2.1 hSt.2.2.2.2.2 (by omega) (by omega), Int.add_zero]); rw [if_neg (by omega), if_neg (by have q := lc_ne (by assumption); rw [e1, e2] at q; exact q)] at hw; rw [hw])
                refine hW _ _ _ (fun D2 W2 hD2 hW2 => ?_)
                refine c_judge (by omega) (by first | omega | (simp only [sA_same, sA_s, ud_s, Int.reduceEq, if_true, if_false, ite_true, ite_false, ↓reduceIte, and_true, true_and, eq_self, Int.add_zero, Int.reduceAdd]; omega) | (simp (disch := omega) only [sA_same, sA_ne, ud_eq, ud_ne, Int.add_zero, Int.reduceAdd]; omega)) u5 (fun gg => ?_) (fun gg => ?_) (fun gg => ?_)
                all_goals first | (exfalso; omega) | exact hW2 _ h0
          · refine v_if_eq_y (t := 73) xB_107 dX10_judge_55 (by decide) rfl (by decide) ?_
            refine v_bipush (n := 75) xB_107 dX10_judge_73 ⟨by decide, by decide⟩ rfl ?_
            refine v_iload (n := 77) xB_107 dX10_judge_75 rfl rfl ?_
            refine v_iadd (n := 78) xB_107 dX10_judge_77 (by first | omega | (simp only [sA_same, sA_s, ud_s, Int.reduceEq, if_true, if_false, ite_true, ite_false, ↓reduceIte, and_true, true_and, eq_self, Int.add_zero, Int.reduceAdd]; omega) | (simp (disch := omega) only [sA_same, sA_ne, ud_eq, ud_ne, Int.add_zero, Int.reduceAdd]; omega)) rfl ?_
            refine v_ireturn0 xB_107 dX10_judge_78 xK_107 ?_
            first | (have hw2 : (-5 : Int) = _ := hw; rw [hw2]) | (rw [show (m 81 22 - k).toNat = (m 81 22 - (k + 1)).toNat + 1 by omega, jdF] at hw; rw [if_pos (by omega)] at hw; rw [hw]) | (rw [show (m 81 22 - k).toNat = (m 81 22 - (k + 1)).toNat + 1 by omega, jdF] at hw; have e1 : m (70 + 2 * t) (i + k) = m 127 (60 * t + (i + k)) := u7 (by omega) (by omega) (by omega) (by omega); have e2 : ponF (m 2 1) k 0 (m (2 + 1)) = m 96 (2 * k) := (by rw [s2, show (2 : Int) + 1 = 3 from rfl, pon_pk hSt.2.2.2.2.1 hSt.2.2.2.1 hSt.2.2.2.2.2 (by omega) (by omega), Int.add_zero]); rw [if_neg (by omega), if_neg (by have q := lc_ne (by assumption); rw [e1, e2] at q; exact q)] at hw; rw [hw])
            refine hW _ _ _ (fun D2 W2 hD2 hW2 => ?_)
            refine c_judge (by omega) (by first | omega | (simp only [sA_same, sA_s, ud_s, Int.reduceEq, if_true, if_false, ite_true, ite_false, ↓reduceIte, and_true, true_and, eq_self, Int.add_zero, Int.reduceAdd]; omega) | (simp (disch := omega) only [sA_same, sA_ne, ud_eq, ud_ne, Int.add_zero, Int.reduceAdd]; omega)) u5 (fun gg => ?_) (fun gg => ?_) (fun gg => ?_)
            all_goals first | (exfalso; omega) | exact hW2 _ h0
        · exact ⟨rfl, rfl⟩
      · refine v_bipush (n := 32) xB_107 dX10_judge_30 ⟨by decide, by decide⟩ rfl ?_
        refine v_ireturn0 xB_107 dX10_judge_32 xK_107 ?_
        refine hW _ _ _ (fun D2 W2 hD2 hW2 => ?_)
        refine c_judge (by omega) (by first | omega | (simp only [sA_same, sA_s, ud_s, Int.reduceEq, if_true, if_false, ite_true, ite_false, ↓reduceIte, and_true, true_and, eq_self, Int.add_zero, Int.reduceAdd]; omega) | (simp (disch := omega) only [sA_same, sA_ne, ud_eq, ud_ne, Int.add_zero, Int.reduceAdd]; omega)) u5 (fun gg => ?_) (fun gg => ?_) (fun gg => ?_)
        all_goals (try simp (disch := omega) only [sA_same, sA_ne, ud_eq, ud_ne] at gg)
        all_goals first | (exfalso; omega) | exact hW2 _ h0 | ((try simp (disch := omega) only [sA_same, sA_ne, sA_sA, sA_sr, sB_s, ud_eq, ud_ne, ud_ud, ud_sr, uB_s, Int.add_zero, Int.reduceAdd]); refine hW2 _ ?_; exact h0)
    · refine v_if_eq_y (t := 33) xB_107 dX10_judge_20 (by decide) rfl (by decide) ?_
      refine v_iconst (n := 34) xB_107 dX10_judge_33 ⟨by decide, by decide⟩ rfl ?_
      refine v_istore4 (n := 36) xB_107 dX10_judge_34 rfl rfl ?_
      refine lp_up (F := fun (k : Int) (m' : PM) => V d 107 (36, ([some (.inr (.inr 0)), some (.inl t), some (.inl i), some (.inr (.inr (69 + 2 * t))), some (.inl (k))], ([], (m', (none, (dy, L)))))) W) (E := fun (k : Int) (m' : PM) => m = m' ∧ jdF (m 125 t) (m 126 t) (fun x => m 127 (60 * t + x)) (m 96) i (m 81 22 - (k)).toNat (k) = jdF (m 125 t) (m 126 t) (fun x => m 127 (60 * t + x)) (m 96) i (m 81 22 - (0)).toNat (0)) (a := 0) (b := m 81 22) ?_ ?_ (0) (m) (by first | omega | (simp only [sA_same, sA_s, ud_s, Int.reduceEq, if_true, if_false, ite_true, ite_false, ↓reduceIte, and_true, true_and, eq_self, Int.add_zero, Int.reduceAdd]; omega) | (simp (disch := omega) only [sA_same, sA_ne, ud_eq, ud_ne, Int.add_zero, Int.reduceAdd]; omega)) (by first | omega | (simp only [sA_same, sA_s, ud_s, Int.reduceEq, if_true, if_false, ite_true, ite_false, ↓reduceIte, and_true, true_and, eq_self, Int.add_zero, Int.reduceAdd]; omega) | (simp (disch := omega) only [sA_same, sA_ne, ud_eq, ud_ne, Int.add_zero, Int.reduceAdd]; omega)) ?_
      · intro m' hm 
        show V d 107 (36, ([some (.inr (.inr 0)), some (.inl t), some (.inl i), some (.inr (.inr (69 + 2 * t))), some (.inl (m 81 22))], ([], (m', (none, (dy, L)))))) W
        obtain ⟨rfl, hw⟩ := hm
        rw [show (m 81 22 - m 81 22).toNat = 0 by omega] at hw
        refine v_iload (n := 38) xB_107 dX10_judge_36 rfl rfl ?_
        refine v_aload_n (n := 39) xB_107 dX10_judge_38 rfl rfl ?_
        refine v_gf_s (n := 42) (kz := 0) xB_107 dX10_judge_39 xO_107 fl_10_12 fg_10_0 (sh_0 _ _ _) rfl st_0_0 rfl ?_
        refine v_gf_s (n := 45) (kz := 0) xB_107 dX10_judge_42 xO_107 fl_10_76 fg_6_0 (sh_1 _ _ _) rfl st_1_0 rfl ?_
        refine v_gf_i (n := 48) (kz := 1) xB_107 dX10_judge_45 xO_107 fl_10_79 fg_4_1 rfl (sh_2 _ _ _) rfl rfl ?_
        refine v_ic_ge_y (t := 115) xB_107 dX10_judge_48 (by decide) rfl (by first | omega | (simp only [sA_same, sA_s, ud_s, Int.reduceEq, if_true, if_false, ite_true, ite_false, ↓reduceIte, and_true, true_and, eq_self, Int.add_zero, Int.reduceAdd]; omega) | (simp (disch := omega) only [sA_same, sA_ne, ud_eq, ud_ne, Int.add_zero, Int.reduceAdd]; omega)) ?_
        refine v_bipush (n := 117) xB_107 dX10_judge_115 ⟨by decide, by decide⟩ rfl ?_
        refine v_ireturn0 xB_107 dX10_judge_117 xK_107 ?_
        first | (have hw2 : (-5 : Int) = _ := hw; rw [hw2]) | (rw [show (m 81 22 - k).toNat = (m 81 22 - (k + 1)).toNat + 1 by omega, jdF] at hw; rw [if_pos (by omega)] at hw; rw [hw]) | (rw [show (m 81 22 - k).toNat = (m 81 22 - (k + 1)).toNat + 1 by omega, jdF] at hw; have e1 : m (70 + 2 * t) (i + k) = m 127 (60 * t + (i + k)) := u7 (by omega) (by omega) (by omega) (by omega); have e2 : ponF (m 2 1) k 0 (m (2 + 1)) = m 96 (2 * k) := (by rw [s2, show (2 : Int) + 1 = 3 from rfl, pon_pk hSt.2.2.2.2.1 hSt.2.2.2.1 hSt.2.2.2.2.2 (by omega) (by omega), Int.add_zero]); rw [if_neg (by omega), if_neg (by have q := lc_ne (by assumption); rw [e1, e2] at q; exact q)] at hw; rw [hw])
        refine hW _ _ _ (fun D2 W2 hD2 hW2 => ?_)
        refine c_judge (by omega) (by first | omega | (simp only [sA_same, sA_s, ud_s, Int.reduceEq, if_true, if_false, ite_true, ite_false, ↓reduceIte, and_true, true_and, eq_self, Int.add_zero, Int.reduceAdd]; omega) | (simp (disch := omega) only [sA_same, sA_ne, ud_eq, ud_ne, Int.add_zero, Int.reduceAdd]; omega)) u5 (fun gg => ?_) (fun gg => ?_) (fun gg => ?_)
        all_goals first | (exfalso; omega) | exact hW2 _ h0
      · intro k m' h1 h2 hm ih 
        show V d 107 (36, ([some (.inr (.inr 0)), some (.inl t), some (.inl i), some (.inr (.inr (69 + 2 * t))), some (.inl (k))], ([], (m', (none, (dy, L)))))) W
        obtain ⟨rfl, hw⟩ := hm
        refine v_iload (n := 38) xB_107 dX10_judge_36 rfl rfl ?_
        refine v_aload_n (n := 39) xB_107 dX10_judge_38 rfl rfl ?_
        refine v_gf_s (n := 42) (kz := 0) xB_107 dX10_judge_39 xO_107 fl_10_12 fg_10_0 (sh_0 _ _ _) rfl st_0_0 rfl ?_
        refine v_gf_s (n := 45) (kz := 0) xB_107 dX10_judge_42 xO_107 fl_10_76 fg_6_0 (sh_1 _ _ _) rfl st_1_0 rfl ?_
        refine v_gf_i (n := 48) (kz := 1) xB_107 dX10_judge_45 xO_107 fl_10_79 fg_4_1 rfl (sh_2 _ _ _) rfl rfl ?_
        refine v_ic_ge_n (n := 51) xB_107 dX10_judge_48 (by decide) rfl (by first | omega | (simp only [sA_same, sA_s, ud_s, Int.reduceEq, if_true, if_false, ite_true, ite_false, ↓reduceIte, and_true, true_and, eq_self, Int.add_zero, Int.reduceAdd]; omega) | (simp (disch := omega) only [sA_same, sA_ne, ud_eq, ud_ne, Int.add_zero, Int.reduceAdd]; omega)) ?_
        refine v_aload_n (n := 52) xB_107 dX10_judge_51 rfl rfl ?_
        refine v_call_v (n := 55) xB_107 dX10_judge_52 xO_107 iv_10_258 rfl (sh_E (by first | omega | (simp only [sA_same, sA_s, ud_s, Int.reduceEq, if_true, if_false, ite_true, ite_false, ↓reduceIte, and_true, true_and, eq_self, Int.add_zero, Int.reduceAdd]; omega) | (simp (disch := omega) only [sA_same, sA_ne, ud_eq, ud_ne, Int.add_zero, Int.reduceAdd]; omega)) _ _ _) rfl rfl rfl ?_
        refine k_isRow (by omega) (by omega) (fun g1 => ?_) (fun g2 => ?_)
        · refine v_if_eq_n (n := 58) xB_107 dX10_judge_55 (by decide) rfl (by decide) ?_
          refine v_iload_n (n := 59) xB_107 dX10_judge_58 rfl rfl ?_
          refine v_if_lt (t := 73) (n := 62) xB_107 dX10_judge_59 (by decide) rfl rfl (fun g3 => ?_) (fun g3 => ?_)
          · refine v_bipush (n := 75) xB_107 dX10_judge_73 ⟨by decide, by decide⟩ rfl ?_
            refine v_iload (n := 77) xB_107 dX10_judge_75 rfl rfl ?_
            refine v_iadd (n := 78) xB_107 dX10_judge_77 (by first | omega | (simp only [sA_same, sA_s, ud_s, Int.reduceEq, if_true, if_false, ite_true, ite_false, ↓reduceIte, and_true, true_and, eq_self, Int.add_zero, Int.reduceAdd]; omega) | (simp (disch := omega) only [sA_same, sA_ne, ud_eq, ud_ne, Int.add_zero, Int.reduceAdd]; omega)) rfl ?_
            refine v_ireturn0 xB_107 dX10_judge_78 xK_107 ?_
            first | (have hw2 : (-5 : Int) = _ := hw; rw [hw2]) | (rw [show (m 81 22 - k).toNat = (m 81 22 - (k + 1)).toNat + 1 by omega, jdF] at hw; rw [if_pos (by omega)] at hw; rw [hw]) | (rw [show (m 81 22 - k).toNat = (m 81 22 - (k + 1)).toNat + 1 by omega, jdF] at hw; have e1 : m (70 + 2 * t) (i + k) = m 127 (60 * t + (i + k)) := u7 (by omega) (by omega) (by omega) (by omega); have e2 : ponF (m 2 1) k 0 (m (2 + 1)) = m 96 (2 * k) := (by rw [s2, show (2 : Int) + 1 = 3 from rfl, pon_pk hSt.2.2.2.2.1 hSt.2.2.2.1 hSt.2.2.2.2.2 (by omega) (by omega), Int.add_zero]); rw [if_neg (by omega), if_neg (by have q := lc_ne (by assumption); rw [e1, e2] at q; exact q)] at hw; rw [hw])
            refine hW _ _ _ (fun D2 W2 hD2 hW2 => ?_)
            refine c_judge (by omega) (by first | omega | (simp only [sA_same, sA_s, ud_s, Int.reduceEq, if_true, if_false, ite_true, ite_false, ↓reduceIte, and_true, true_and, eq_self, Int.add_zero, Int.reduceAdd]; omega) | (simp (disch := omega) only [sA_same, sA_ne, ud_eq, ud_ne, Int.add_zero, Int.reduceAdd]; omega)) u5 (fun gg => ?_) (fun gg => ?_) (fun gg => ?_)
            all_goals first | (exfalso; omega) | exact hW2 _ h0
          · refine v_iload_n (n := 63) xB_107 dX10_judge_62 rfl rfl ?_
            refine v_aload_n (n := 64) xB_107 dX10_judge_63 rfl rfl ?_
            refine v_gf_i (n := 67) (kz := 1) xB_107 dX10_judge_64 xO_107 fl_10_264 fg_8_1 rfl (sh_E (by first | omega | (simp only [sA_same, sA_s, ud_s, Int.reduceEq, if_true, if_false, ite_true, ite_false, ↓reduceIte, and_true, true_and, eq_self, Int.add_zero, Int.reduceAdd]; omega) | (simp (disch := omega) only [sA_same, sA_ne, ud_eq, ud_ne, Int.add_zero, Int.reduceAdd]; omega)) _ _ _) rfl rfl ?_
            refine v_iload (n := 69) xB_107 dX10_judge_67 rfl rfl ?_
            refine v_isub (n := 70) xB_107 dX10_judge_69 (by first | omega | (simp only [sA_same, sA_s, ud_s, Int.reduceEq, if_true, if_false, ite_true, ite_false, ↓reduceIte, and_true, true_and, eq_self, Int.add_zero, Int.reduceAdd]; omega) | (simp (disch := omega) only [sA_same, sA_ne, ud_eq, ud_ne, Int.add_zero, Int.reduceAdd]; omega)) rfl ?_
            refine v_ic_lt (t := 79) (n := 73) xB_107 dX10_judge_70 (by decide) rfl rfl (fun g4 => ?_) (fun g4 => ?_)
            · refine v_aload_n (n := 80) xB_107 dX10_judge_79 rfl rfl ?_
              refine v_gf_s (n := 83) (kz := 2) xB_107 dX10_judge_80 xO_107 fl_10_267 fg_8_2 (sh_E (by first | omega | (simp only [sA_same, sA_s, ud_s, Int.reduceEq, if_true, if_false, ite_true, ite_false, ↓reduceIte, and_true, true_and, eq_self, Int.add_zero, Int.reduceAdd]; omega) | (simp (disch := omega) only [sA_same, sA_ne, ud_eq, ud_ne, Int.add_zero, Int.reduceAdd]; omega)) _ _ _) rfl (st_EI (by first | omega | (simp only [sA_same, sA_s, ud_s, Int.reduceEq, if_true, if_false, ite_true, ite_false, ↓reduceIte, and_true, true_and, eq_self, Int.add_zero, Int.reduceAdd]; omega) | (simp (disch := omega) only [sA_same, sA_ne, ud_eq, ud_ne, Int.add_zero, Int.reduceAdd]; omega))) rfl ?_
              refine v_iload_n (n := 84) xB_107 dX10_judge_83 rfl rfl ?_
              refine v_iload (n := 86) xB_107 dX10_judge_84 rfl rfl ?_
              refine v_iadd (n := 87) xB_107 dX10_judge_86 (by first | omega | (simp only [sA_same, sA_s, ud_s, Int.reduceEq, if_true, if_false, ite_true, ite_false, ↓reduceIte, and_true, true_and, eq_self, Int.add_zero, Int.reduceAdd]; omega) | (simp (disch := omega) only [sA_same, sA_ne, ud_eq, ud_ne, Int.add_zero, Int.reduceAdd]; omega)) rfl ?_
              refine v_laload (n := 88) (lz := 60) xB_107 dX10_judge_87 (sh_EI (by first | omega | (simp only [sA_same, sA_s, ud_s, Int.reduceEq, if_true, if_false, ite_true, ite_false, ↓reduceIte, and_true, true_and, eq_self, Int.add_zero, Int.reduceAdd]; omega) | (simp (disch := omega) only [sA_same, sA_ne, ud_eq, ud_ne, Int.add_zero, Int.reduceAdd]; omega)) _ _ _) rfl (by first | omega | (simp only [sA_same, sA_s, ud_s, Int.reduceEq, if_true, if_false, ite_true, ite_false, ↓reduceIte, and_true, true_and, eq_self, Int.add_zero, Int.reduceAdd]; omega) | (simp (disch := omega) only [sA_same, sA_ne, ud_eq, ud_ne, Int.add_zero, Int.reduceAdd]; omega)) rfl ?_
              refine v_aload_n (n := 89) xB_107 dX10_judge_88 rfl rfl ?_
              refine v_gf_s (n := 92) (kz := 0) xB_107 dX10_judge_89 xO_107 fl_10_12 fg_10_0 (sh_0 _ _ _) rfl st_0_0 rfl ?_
              refine v_gf_s (n := 95) (kz := 0) xB_107 dX10_judge_92 xO_107 fl_10_76 fg_6_0 (sh_1 _ _ _) rfl st_1_0 rfl ?_
              refine v_iload (n := 97) xB_107 dX10_judge_95 rfl rfl ?_
              refine v_iconst (n := 98) xB_107 dX10_judge_97 ⟨by decide, by decide⟩ rfl ?_
              refine v_call_v (n := 101) xB_107 dX10_judge_98 xO_107 iv_10_144 rfl (sh_2 _ _ _) rfl rfl rfl ?_
              refine k_pageOn (by omega) (Or.inl rfl) (by rw [s2]; exact s1) (by omega) hSt.2.2.1 ?_
              refine v_i2l (n := 102) xB_107 dX10_judge_101 rfl ?_
              refine v_lcmp (n := 103) xB_107 dX10_judge_102 rfl ?_
              refine v_if_eq (t := 109) (n := 106) xB_107 dX10_judge_103 (by decide) rfl rfl (fun g5 => ?_) (fun g5 => ?_)
              · refine v_iinc4 (n := 112) xB_107 dX10_judge_109 rfl (by first | omega | (simp only [sA_same, sA_s, ud_s, Int.reduceEq, if_true, if_false, ite_true, ite_false, ↓reduceIte, and_true, true_and, eq_self, Int.add_zero, Int.reduceAdd]; omega) | (simp (disch := omega) only [sA_same, sA_ne, ud_eq, ud_ne, Int.add_zero, Int.reduceAdd]; omega)) rfl ?_
                refine v_goto (t := 36) xB_107 dX10_judge_112 (by decide) rfl ?_
                rw [show (m 81 22 - k).toNat = (m 81 22 - (k + 1)).toNat + 1 by omega, jdF] at hw
                have e1 : m (70 + 2 * t) (i + k) = m 127 (60 * t + (i + k)) := u7 (by omega) (by omega) (by omega) (by omega)
                have e2 : ponF (m 2 1) k 0 (m (2 + 1)) = m 96 (2 * k) := by rw [s2, show (2 : Int) + 1 = 3 from rfl, pon_pk hSt.2.2.2.2.1 hSt.2.2.2.1 hSt.2.2.2.2.2 (by omega) (by omega), Int.add_zero]
                rw [if_neg (by omega), if_pos (by have q := lc_eq (by assumption); rw [e1, e2] at q; exact q)] at hw
                exact ih _ ⟨rfl, hw⟩
              · refine v_iload (n := 108) xB_107 dX10_judge_106 rfl rfl ?_
                refine v_ireturn0 xB_107 dX10_judge_108 xK_107 ?_
                first | (have hw2 : (-5 : Int) = _ := hw; rw [hw2]) | (rw [show (m 81 22 - k).toNat = (m 81 22 - (k + 1)).toNat + 1 by omega, jdF] at hw; rw [if_pos (by omega)] at hw; rw [hw]) | (rw [show (m 81 22 - k).toNat = (m 81 22 - (k + 1)).toNat + 1 by omega, jdF] at hw; have e1 : m (70 + 2 * t) (i + k) = m 127 (60 * t + (i + k)) := u7 (by omega) (by omega) (by omega) (by omega); have e2 : ponF (m 2 1) k 0 (m (2 + 1)) = m 96 (2 * k) := (by rw [s2, show (2 : Int) + 1 = 3 from rfl, pon_pk hSt.2.2.2.2.1 hSt.2.2.2.1 hSt.2.2.2.2.2 (by omega) (by omega), Int.add_zero]); rw [if_neg (by omega), if_neg (by have q := lc_ne (by assumption); rw [e1, e2] at q; exact q)] at hw; rw [hw])
                refine hW _ _ _ (fun D2 W2 hD2 hW2 => ?_)
                refine c_judge (by omega) (by first | omega | (simp only [sA_same, sA_s, ud_s, Int.reduceEq, if_true, if_false, ite_true, ite_false, ↓reduceIte, and_true, true_and, eq_self, Int.add_zero, Int.reduceAdd]; omega) | (simp (disch := omega) only [sA_same, sA_ne, ud_eq, ud_ne, Int.add_zero, Int.reduceAdd]; omega)) u5 (fun gg => ?_) (fun gg => ?_) (fun gg => ?_)
                all_goals first | (exfalso; omega) | exact hW2 _ h0
            · refine v_bipush (n := 75) xB_107 dX10_judge_73 ⟨by decide, by decide⟩ rfl ?_
              refine v_iload (n := 77) xB_107 dX10_judge_75 rfl rfl ?_
              refine v_iadd (n := 78) xB_107 dX10_judge_77 (by first | omega | (simp only [sA_same, sA_s, ud_s, Int.reduceEq, if_true, if_false, ite_true, ite_false, ↓reduceIte, and_true, true_and, eq_self, Int.add_zero, Int.reduceAdd]; omega) | (simp (disch := omega) only [sA_same, sA_ne, ud_eq, ud_ne, Int.add_zero, Int.reduceAdd]; omega)) rfl ?_
              refine v_ireturn0 xB_107 dX10_judge_78 xK_107 ?_
              first | (have hw2 : (-5 : Int) = _ := hw; rw [hw2]) | (rw [show (m 81 22 - k).toNat = (m 81 22 - (k + 1)).toNat + 1 by omega, jdF] at hw; rw [if_pos (by omega)] at hw; rw [hw]) | (rw [show (m 81 22 - k).toNat = (m 81 22 - (k + 1)).toNat + 1 by omega, jdF] at hw; have e1 : m (70 + 2 * t) (i + k) = m 127 (60 * t + (i + k)) := u7 (by omega) (by omega) (by omega) (by omega); have e2 : ponF (m 2 1) k 0 (m (2 + 1)) = m 96 (2 * k) := (by rw [s2, show (2 : Int) + 1 = 3 from rfl, pon_pk hSt.2.2.2.2.1 hSt.2.2.2.1 hSt.2.2.2.2.2 (by omega) (by omega), Int.add_zero]); rw [if_neg (by omega), if_neg (by have q := lc_ne (by assumption); rw [e1, e2] at q; exact q)] at hw; rw [hw])
              refine hW _ _ _ (fun D2 W2 hD2 hW2 => ?_)
              refine c_judge (by omega) (by first | omega | (simp only [sA_same, sA_s, ud_s, Int.reduceEq, if_true, if_false, ite_true, ite_false, ↓reduceIte, and_true, true_and, eq_self, Int.add_zero, Int.reduceAdd]; omega) | (simp (disch := omega) only [sA_same, sA_ne, ud_eq, ud_ne, Int.add_zero, Int.reduceAdd]; omega)) u5 (fun gg => ?_) (fun gg => ?_) (fun gg => ?_)
              all_goals first | (exfalso; omega) | exact hW2 _ h0
        · refine v_if_eq_y (t := 73) xB_107 dX10_judge_55 (by decide) rfl (by decide) ?_
          refine v_bipush (n := 75) xB_107 dX10_judge_73 ⟨by decide, by decide⟩ rfl ?_
          refine v_iload (n := 77) xB_107 dX10_judge_75 rfl rfl ?_
          refine v_iadd (n := 78) xB_107 dX10_judge_77 (by first | omega | (simp only [sA_same, sA_s, ud_s, Int.reduceEq, if_true, if_false, ite_true, ite_false, ↓reduceIte, and_true, true_and, eq_self, Int.add_zero, Int.reduceAdd]; omega) | (simp (disch := omega) only [sA_same, sA_ne, ud_eq, ud_ne, Int.add_zero, Int.reduceAdd]; omega)) rfl ?_
          refine v_ireturn0 xB_107 dX10_judge_78 xK_107 ?_
          first | (have hw2 : (-5 : Int) = _ := hw; rw [hw2]) | (rw [show (m 81 22 - k).toNat = (m 81 22 - (k + 1)).toNat + 1 by omega, jdF] at hw; rw [if_pos (by omega)] at hw; rw [hw]) | (rw [show (m 81 22 - k).toNat = (m 81 22 - (k + 1)).toNat + 1 by omega, jdF] at hw; have e1 : m (70 + 2 * t) (i + k) = m 127 (60 * t + (i + k)) := u7 (by omega) (by omega) (by omega) (by omega); have e2 : ponF (m 2 1) k 0 (m (2 + 1)) = m 96 (2 * k) := (by rw [s2, show (2 : Int) + 1 = 3 from rfl, pon_pk hSt.2.2.2.2.1 hSt.2.2.2.1 hSt.2.2.2.2.2 (by omega) (by omega), Int.add_zero]); rw [if_neg (by omega), if_neg (by have q := lc_ne (by assumption); rw [e1, e2] at q; exact q)] at hw; rw [hw])
          refine hW _ _ _ (fun D2 W2 hD2 hW2 => ?_)
          refine c_judge (by omega) (by first | omega | (simp only [sA_same, sA_s, ud_s, Int.reduceEq, if_true, if_false, ite_true, ite_false, ↓reduceIte, and_true, true_and, eq_self, Int.add_zero, Int.reduceAdd]; omega) | (simp (disch := omega) only [sA_same, sA_ne, ud_eq, ud_ne, Int.add_zero, Int.reduceAdd]; omega)) u5 (fun gg => ?_) (fun gg => ?_) (fun gg => ?_)
          all_goals first | (exfalso; omega) | exact hW2 _ h0
      · exact ⟨rfl, rfl⟩
  · refine v_if_ne_n (n := 7) xB_107 dX10_judge_4 (by decide) rfl (by decide) ?_
    refine v_iconst (n := 8) xB_107 dX10_judge_7 ⟨by decide, by decide⟩ rfl ?_
    refine v_ireturn0 xB_107 dX10_judge_8 xK_107 ?_
    refine hW _ _ _ (fun D2 W2 hD2 hW2 => ?_)
    refine c_judge (by omega) (by first | omega | (simp only [sA_same, sA_s, ud_s, Int.reduceEq, if_true, if_false, ite_true, ite_false, ↓reduceIte, and_true, true_and, eq_self, Int.add_zero, Int.reduceAdd]; omega) | (simp (disch := omega) only [sA_same, sA_ne, ud_eq, ud_ne, Int.add_zero, Int.reduceAdd]; omega)) u5 (fun gg => ?_) (fun gg => ?_) (fun gg => ?_)
    all_goals (try simp (disch := omega) only [sA_same, sA_ne, ud_eq, ud_ne] at gg)
    all_goals first | (exfalso; omega) | exact hW2 _ h0 | ((try simp (disch := omega) only [sA_same, sA_ne, sA_sA, sA_sr, sB_s, ud_eq, ud_ne, ud_ud, ud_sr, uB_s, Int.add_zero, Int.reduceAdd]); refine hW2 _ ?_; exact h0)
