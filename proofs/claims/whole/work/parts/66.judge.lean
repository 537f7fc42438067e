/-! Judging: the call. -/
def jdF (so le : Int) (it sd : Int → Int) (i : Int) : Nat → Int → Int
  | 0, _ => -5
  | f + 1, s => if so < 0 ∨ i < 0 ∨ le - s ≤ i then 100 + s else if it (i + s) = sd (2 * s) then jdF so le it sd i f (s + 1) else s
theorem lc_eq {x y : Int} (h : lCmp x y = 0) : x = y := by unfold lCmp at h; (repeat' split at h) <;> omega
theorem lc_ne {x y : Int} (h : ¬ lCmp x y = 0) : ¬ x = y := by intro e; subst e; apply h; unfold lCmp; rw [if_neg (by omega), if_pos rfl]
set_option maxHeartbeats 1000000 in
theorem c_judge {d : Nat} {t i : Int} {m : PM} {dy : List (Nat × Nat)} {L : Nat} {Q : Option PV → PS → Prop} (hd : 3 ≤ d) (hN : 0 ≤ m 81 22 ∧ m 81 22 ≤ 12) (hl : 0 ≤ t → t < 6 → 0 ≤ m 126 t ∧ m 126 t ≤ 60) (o1 : (¬ (0 ≤ t ∧ t < 6)) → Q (some (.inl (-1))) (m, (none, (dy, L)))) (o2 : ((0 ≤ t ∧ t < 6) ∧ 0 < m 125 t) → Q (some (.inl (-12))) (m, (none, (dy, L)))) (o3 : ((0 ≤ t ∧ t < 6) ∧ m 125 t ≤ 0) → Q (some (.inl (jdF (m 125 t) (m 126 t) (fun x => m 127 (60 * t + x)) (m 96) i (m 81 22 - (0)).toNat (0)))) (m, (none, (dy, L)))) : C d 195 [.inr (.inr 81), .inl t, .inl i] (m, (none, (dy, L))) Q := by
  refine C_go (k := 2) hd xL_195 (fun d hd => ?_)
  show V d 195 (0, ([some (.inr (.inr 81)), some (.inl t), some (.inl i), none], ([], (m, (none, (dy, L)))))) Q
  refine v_aload_n (n := 1) xB_195 dX11_judge_0 rfl rfl ?_
  refine v_iload_n (n := 2) xB_195 dX11_judge_1 rfl rfl ?_
  refine v_call_v (n := 5) xB_195 dX11_judge_2 xO_195 iv_11_386 rfl (sh_81 _ _ _) rfl rfl rfl ?_
  refine c_isTape (by omega)  (fun g1 => ?_) (fun g2 => ?_)
  · refine v_if_ne_y (t := 10) xB_195 dX11_judge_5 (by decide) rfl (by decide) ?_
    refine v_aload_n (n := 11) xB_195 dX11_judge_10 rfl rfl ?_
    refine v_gf_s (n := 14) (kz := 65) xB_195 dX11_judge_11 xO_195 fl_11_208 fg_11_65 (sh_81 _ _ _) rfl st_81_65 rfl ?_
    refine v_iload_n (n := 15) xB_195 dX11_judge_14 rfl rfl ?_
    refine v_iaload (n := 16) (lz := 6) xB_195 dX11_judge_15 (sh_125 _ _ _) rfl (by first | omega | (simp only [sA_same, sA_s, ud_s, Int.reduceEq, if_true, if_false, ite_true, ite_false, ↓reduceIte, and_true, true_and, eq_self, Int.add_zero, Int.reduceAdd]; omega) | (simp (disch := omega) only [sA_same, sA_ne, ud_eq, ud_ne, Int.add_zero, Int.reduceAdd]; omega)) rfl ?_
    refine v_if_le (t := 22) (n := 19) xB_195 dX11_judge_16 (by decide) rfl rfl (fun g3 => ?_) (fun g3 => ?_)
    · refine v_iconst (n := 23) xB_195 dX11_judge_22 ⟨by decide, by decide⟩ rfl ?_
      refine v_istore_n3 (n := 24) xB_195 dX11_judge_23 rfl rfl ?_
      refine lp_up (F := fun (k : Int) (m' : PM) => V d 195 (24, ([some (.inr (.inr 81)), some (.inl t), some (.inl i), some (.inl (k))], ([], (m', (none, (dy, L)))))) Q) (E := fun (k : Int) (m' : PM) => m = m' ∧ jdF (m 125 t) (m 126 t) (fun x => m 127 (60 * t + x)) (m 96) i (m 81 22 - (k)).toNat (k) = jdF (m 125 t) (m 126 t) (fun x => m 127 (60 * t + x)) (m 96) i (m 81 22 - (0)).toNat (0)) (a := 0) (b := m 81 22) ?_ ?_ (0) (m) (by first | omega | (simp only [sA_same, sA_s, ud_s, Int.reduceEq, if_true, if_false, ite_true, ite_false, ↓reduceIte, and_true, true_and, eq_self, Int.add_zero, Int.reduceAdd]; omega) | (simp (disch := omega) only [sA_same, sA_ne, ud_eq, ud_ne, Int.add_zero, Int.reduceAdd]; omega)) (by first | omega | (simp only [sA_same, sA_s, ud_s, Int.reduceEq, if_true, if_false, ite_true, ite_false, ↓reduceIte, and_true, true_and, eq_self, Int.add_zero, Int.reduceAdd]; omega) | (simp (disch := omega) only [sA_same, sA_ne, ud_eq, ud_ne, Int.add_zero, Int.reduceAdd]; omega)) ?_
      · intro m' hm 
        show V d 195 (24, ([some (.inr (.inr 81)), some (.inl t), some (.inl i), some (.inl (m 81 22))], ([], (m', (none, (dy, L)))))) Q
        obtain ⟨rfl, hw⟩ := hm
        rw [show (m 81 22 - m 81 22).toNat = 0 by omega] at hw
        refine v_iload_n (n := 25) xB_195 dX11_judge_24 rfl rfl ?_
        refine v_aload_n (n := 26) xB_195 dX11_judge_25 rfl rfl ?_
        refine v_gf_i (n := 29) (kz := 22) xB_195 dX11_judge_26 xO_195 fl_11_78 fg_11_22 rfl (sh_81 _ _ _) rfl rfl ?_
        refine v_ic_ge_y (t := 98) xB_195 dX11_judge_29 (by decide) rfl (by first | omega | (simp only [sA_same, sA_s, ud_s, Int.reduceEq, if_true, if_false, ite_true, ite_false, ↓reduceIte, and_true, true_and, eq_self, Int.add_zero, Int.reduceAdd]; omega) | (simp (disch := omega) only [sA_same, sA_ne, ud_eq, ud_ne, Int.add_zero, Int.reduceAdd]; omega)) ?_
        refine v_bipush (n := 100) xB_195 dX11_judge_98 ⟨by decide, by decide⟩ rfl ?_
        refine v_ireturn0 xB_195 dX11_judge_100 xK_195 ?_
        first | (have hw2 : (-5 : Int) = _ := hw; rw [← hw2] at o3; exact o3 (by omega)) | (rw [show (m 81 22 - k).toNat = (m 81 22 - (k + 1)).toNat + 1 by omega, jdF] at hw; rw [if_pos (by omega)] at hw; rw [← hw] at o3; exact o3 (by omega)) | (rw [show (m 81 22 - k).toNat = (m 81 22 - (k + 1)).toNat + 1 by omega, jdF] at hw; rw [if_neg (by omega), if_neg (by have := lc_ne (by assumption); intro e; apply this; rw [← e]; congr 1; omega)] at hw; rw [← hw] at o3; exact o3 (by omega))
      · intro k m' h1 h2 hm ih 
        show V d 195 (24, ([some (.inr (.inr 81)), some (.inl t), some (.inl i), some (.inl (k))], ([], (m', (none, (dy, L)))))) Q
        obtain ⟨rfl, hw⟩ := hm
        refine v_iload_n (n := 25) xB_195 dX11_judge_24 rfl rfl ?_
        refine v_aload_n (n := 26) xB_195 dX11_judge_25 rfl rfl ?_
        refine v_gf_i (n := 29) (kz := 22) xB_195 dX11_judge_26 xO_195 fl_11_78 fg_11_22 rfl (sh_81 _ _ _) rfl rfl ?_
        refine v_ic_ge_n (n := 32) xB_195 dX11_judge_29 (by decide) rfl (by first | omega | (simp only [sA_same, sA_s, ud_s, Int.reduceEq, if_true, if_false, ite_true, ite_false, ↓reduceIte, and_true, true_and, eq_self, Int.add_zero, Int.reduceAdd]; omega) | (simp (disch := omega) only [sA_same, sA_ne, ud_eq, ud_ne, Int.add_zero, Int.reduceAdd]; omega)) ?_
        refine v_aload_n (n := 33) xB_195 dX11_judge_32 rfl rfl ?_
        refine v_gf_s (n := 36) (kz := 65) xB_195 dX11_judge_33 xO_195 fl_11_208 fg_11_65 (sh_81 _ _ _) rfl st_81_65 rfl ?_
        refine v_iload_n (n := 37) xB_195 dX11_judge_36 rfl rfl ?_
        refine v_iaload (n := 38) (lz := 6) xB_195 dX11_judge_37 (sh_125 _ _ _) rfl (by first | omega | (simp only [sA_same, sA_s, ud_s, Int.reduceEq, if_true, if_false, ite_true, ite_false, ↓reduceIte, and_true, true_and, eq_self, Int.add_zero, Int.reduceAdd]; omega) | (simp (disch := omega) only [sA_same, sA_ne, ud_eq, ud_ne, Int.add_zero, Int.reduceAdd]; omega)) rfl ?_
        refine v_if_lt (t := 59) (n := 41) xB_195 dX11_judge_38 (by decide) rfl rfl (fun g1 => ?_) (fun g1 => ?_)
        · refine v_bipush (n := 61) xB_195 dX11_judge_59 ⟨by decide, by decide⟩ rfl ?_
          refine v_iload_n (n := 62) xB_195 dX11_judge_61 rfl rfl ?_
          refine v_iadd (n := 63) xB_195 dX11_judge_62 (by first | omega | (simp only [sA_same, sA_s, ud_s, Int.reduceEq, if_true, if_false, ite_true, ite_false, ↓reduceIte, and_true, true_and, eq_self, Int.add_zero, Int.reduceAdd]; omega) | (simp (disch := omega) only [sA_same, sA_ne, ud_eq, ud_ne, Int.add_zero, Int.reduceAdd]; omega)) rfl ?_
          refine v_ireturn0 xB_195 dX11_judge_63 xK_195 ?_
          first | (have hw2 : (-5 : Int) = _ := hw; rw [← hw2] at o3; exact o3 (by omega)) | (rw [show (m 81 22 - k).toNat = (m 81 22 - (k + 1)).toNat + 1 by omega, jdF] at hw; rw [if_pos (by omega)] at hw; rw [← hw] at o3; exact o3 (by omega)) | (rw [show (m 81 22 - k).toNat = (m 81 22 - (k + 1)).toNat + 1 by omega, jdF] at hw; rw [if_neg (by omega), if_neg (by have := lc_ne (by assumption); intro e; apply this; rw [← e]; congr 1; omega)] at hw; rw [← hw] at o3; exact o3 (by omega))
        · refine v_iload_n (n := 42) xB_195 dX11_judge_41 rfl rfl ?_
          refine v_if_lt (t := 59) (n := 45) xB_195 dX11_judge_42 (by decide) rfl rfl (fun g2 => ?_) (fun g2 => ?_)
          · refine v_bipush (n := 61) xB_195 dX11_judge_59 ⟨by decide, by decide⟩ rfl ?_
            refine v_iload_n (n := 62) xB_195 dX11_judge_61 rfl rfl ?_
            refine v_iadd (n := 63) xB_195 dX11_judge_62 (by first | omega | (simp only [sA_same, sA_s, ud_s, Int.reduceEq, if_true, if_false, ite_true, ite_false, ↓reduceIte, and_true, true_and, eq_self, Int.add_zero, Int.reduceAdd]; omega) | (simp (disch := omega) only [sA_same, sA_ne, ud_eq, ud_ne, Int.add_zero, Int.reduceAdd]; omega)) rfl ?_
            refine v_ireturn0 xB_195 dX11_judge_63 xK_195 ?_
            first | (have hw2 : (-5 : Int) = _ := hw; rw [← hw2] at o3; exact o3 (by omega)) | (rw [show (m 81 22 - k).toNat = (m 81 22 - (k + 1)).toNat + 1 by omega, jdF] at hw; rw [if_pos (by omega)] at hw; rw [← hw] at o3; exact o3 (by omega)) | (rw [show (m 81 22 - k).toNat = (m 81 22 - (k + 1)).toNat + 1 by omega, jdF] at hw; rw [if_neg (by omega), if_neg (by have := lc_ne (by assumption); intro e; apply this; rw [← e]; congr 1; omega)] at hw; rw [← hw] at o3; exact o3 (by omega))
          · refine v_iload_n (n := 46) xB_195 dX11_judge_45 rfl rfl ?_
            refine v_aload_n (n := 47) xB_195 dX11_judge_46 rfl rfl ?_
            refine v_gf_s (n := 50) (kz := 66) xB_195 dX11_judge_47 xO_195 fl_11_211 fg_11_66 (sh_81 _ _ _) rfl st_81_66 rfl ?_
            refine v_iload_n (n := 51) xB_195 dX11_judge_50 rfl rfl ?_
            refine v_iaload (n := 52) (lz := 6) xB_195 dX11_judge_51 (sh_126 _ _ _) rfl (by first | omega | (simp only [sA_same, sA_s, ud_s, Int.reduceEq, if_true, if_false, ite_true, ite_false, ↓reduceIte, and_true, true_and, eq_self, Int.add_zero, Int.reduceAdd]; omega) | (simp (disch := omega) only [sA_same, sA_ne, ud_eq, ud_ne, Int.add_zero, Int.reduceAdd]; omega)) rfl ?_
            refine v_iload_n (n := 53) xB_195 dX11_judge_52 rfl rfl ?_
            refine v_isub (n := 54) xB_195 dX11_judge_53 (by first | omega | (simp only [sA_same, sA_s, ud_s, Int.reduceEq, if_true, if_false, ite_true, ite_false, ↓reduceIte, and_true, true_and, eq_self, Int.add_zero, Int.reduceAdd]; omega) | (simp (disch := omega) only [sA_same, sA_ne, ud_eq, ud_ne, Int.add_zero, Int.reduceAdd]; omega)) rfl ?_
            refine v_iconst (n := 55) xB_195 dX11_judge_54 ⟨by decide, by decide⟩ rfl ?_
            refine v_isub (n := 56) xB_195 dX11_judge_55 (by first | omega | (simp only [sA_same, sA_s, ud_s, Int.reduceEq, if_true, if_false, ite_true, ite_false, ↓reduceIte, and_true, true_and, eq_self, Int.add_zero, Int.reduceAdd]; omega) | (simp (disch := omega) only [sA_same, sA_ne, ud_eq, ud_ne, Int.add_zero, Int.reduceAdd]; omega)) rfl ?_
            refine v_ic_le (t := 64) (n := 59) xB_195 dX11_judge_56 (by decide) rfl rfl (fun g3 => ?_) (fun g3 => ?_)
            · refine v_aload_n (n := 65) xB_195 dX11_judge_64 rfl rfl ?_
              refine v_gf_s (n := 68) (kz := 67) xB_195 dX11_judge_65 xO_195 fl_11_214 fg_11_67 (sh_81 _ _ _) rfl st_81_67 rfl ?_
              refine v_bipush (n := 70) xB_195 dX11_judge_68 ⟨by decide, by decide⟩ rfl ?_
              refine v_iload_n (n := 71) xB_195 dX11_judge_70 rfl rfl ?_
              refine v_imul (n := 72) xB_195 dX11_judge_71 (by first | omega | (simp only [sA_same, sA_s, ud_s, Int.reduceEq, if_true, if_false, ite_true, ite_false, ↓reduceIte, and_true, true_and, eq_self, Int.add_zero, Int.reduceAdd]; omega) | (simp (disch := omega) only [sA_same, sA_ne, ud_eq, ud_ne, Int.add_zero, Int.reduceAdd]; omega)) rfl ?_
              refine v_iload_n (n := 73) xB_195 dX11_judge_72 rfl rfl ?_
              refine v_iadd (n := 74) xB_195 dX11_judge_73 (by first | omega | (simp only [sA_same, sA_s, ud_s, Int.reduceEq, if_true, if_false, ite_true, ite_false, ↓reduceIte, and_true, true_and, eq_self, Int.add_zero, Int.reduceAdd]; omega) | (simp (disch := omega) only [sA_same, sA_ne, ud_eq, ud_ne, Int.add_zero, Int.reduceAdd]; omega)) rfl ?_
              refine v_iload_n (n := 75) xB_195 dX11_judge_74 rfl rfl ?_
              refine v_iadd (n := 76) xB_195 dX11_judge_75 (by first | omega | (simp only [sA_same, sA_s, ud_s, Int.reduceEq, if_true, if_false, ite_true, ite_false, ↓reduceIte, and_true, true_and, eq_self, Int.add_zero, Int.reduceAdd]; omega) | (simp (disch := omega) only [sA_same, sA_ne, ud_eq, ud_ne, Int.add_zero, Int.reduceAdd]; omega)) rfl ?_
              refine v_laload (n := 77) (lz := 360) xB_195 dX11_judge_76 (sh_127 _ _ _) rfl (by first | omega | (simp only [sA_same, sA_s, ud_s, Int.reduceEq, if_true, if_false, ite_true, ite_false, ↓reduceIte, and_true, true_and, eq_self, Int.add_zero, Int.reduceAdd]; omega) | (simp (disch := omega) only [sA_same, sA_ne, ud_eq, ud_ne, Int.add_zero, Int.reduceAdd]; omega)) rfl ?_
              refine v_aload_n (n := 78) xB_195 dX11_judge_77 rfl rfl ?_
              refine v_gf_s (n := 81) (kz := 23) xB_195 dX11_judge_78 xO_195 fl_11_81 fg_11_23 (sh_81 _ _ _) rfl st_81_23 rfl ?_
              refine v_iconst (n := 82) xB_195 dX11_judge_81 ⟨by decide, by decide⟩ rfl ?_
              refine v_iload_n (n := 83) xB_195 dX11_judge_82 rfl rfl ?_
              refine v_imul (n := 84) xB_195 dX11_judge_83 (by first | omega | (simp only [sA_same, sA_s, ud_s, Int.reduceEq, if_true, if_false, ite_true, ite_false, ↓reduceIte, and_true, true_and, eq_self, Int.add_zero, Int.reduceAdd]; omega) | (simp (disch := omega) only [sA_same, sA_ne, ud_eq, ud_ne, Int.add_zero, Int.reduceAdd]; omega)) rfl ?_
              refine v_iaload (n := 85) (lz := 24) xB_195 dX11_judge_84 (sh_96 _ _ _) rfl (by first | omega | (simp only [sA_same, sA_s, ud_s, Int.reduceEq, if_true, if_false, ite_true, ite_false, ↓reduceIte, and_true, true_and, eq_self, Int.add_zero, Int.reduceAdd]; omega) | (simp (disch := omega) only [sA_same, sA_ne, ud_eq, ud_ne, Int.add_zero, Int.reduceAdd]; omega)) rfl ?_
              refine v_i2l (n := 86) xB_195 dX11_judge_85 rfl ?_
              refine v_lcmp (n := 87) xB_195 dX11_judge_86 rfl ?_
              refine v_if_eq (t := 92) (n := 90) xB_195 dX11_judge_87 (by decide) rfl rfl (fun g4 => ?_) (fun g4 => ?_)
              · refine v_iinc3 (n := 95) xB_195 dX11_judge_92 rfl (by first | omega | (simp only [sA_same, sA_s, ud_s, Int.reduceEq, if_true, if_false, ite_true, ite_false, ↓reduceIte, and_true, true_and, eq_self, Int.add_zero, Int.reduceAdd]; omega) | (simp (disch := omega) only [sA_same, sA_ne, ud_eq, ud_ne, Int.add_zero, Int.reduceAdd]; omega)) rfl ?_
                refine v_goto (t := 24) xB_195 dX11_judge_95 (by decide) rfl ?_
                rw [show (m 81 22 - k).toNat = (m 81 22 - (k + 1)).toNat + 1 by omega, jdF] at hw
                rw [if_neg (by omega), if_pos (by have := lc_eq (by assumption); rw [← this]; congr 1; omega)] at hw
                exact ih _ ⟨rfl, hw⟩
              · refine v_iload_n (n := 91) xB_195 dX11_judge_90 rfl rfl ?_
                refine v_ireturn0 xB_195 dX11_judge_91 xK_195 ?_
                first | (have hw2 : (-5 : Int) = _ := hw; rw [← hw2] at o3; exact o3 (by omega)) | (rw [show (m 81 22 - k).toNat = (m 81 22 - (k + 1)).toNat + 1 by omega, jdF] at hw; rw [if_pos (by omega)] at hw; rw [← hw] at o3; exact o3 (by omega)) | (rw [show (m 81 22 - k).toNat = (m 81 22 - (k + 1)).toNat + 1 by omega, jdF] at hw; rw [if_neg (by omega), if_neg (by have := lc_ne (by assumption); intro e; apply this; rw [← e]; congr 1; omega)] at hw; rw [← hw] at o3; exact o3 (by omega))
            · refine v_bipush (n := 61) xB_195 dX11_judge_59 ⟨by decide, by decide⟩ rfl ?_
              refine v_iload_n (n := 62) xB_195 dX11_judge_61 rfl rfl ?_
              refine v_iadd (n := 63) xB_195 dX11_judge_62 (by first | omega | (simp only [sA_same, sA_s, ud_s, Int.reduceEq, if_true, if_false, ite_true, ite_false, ↓reduceIte, and_true, true_and, eq_self, Int.add_zero, Int.reduceAdd]; omega) | (simp (disch := omega) only [sA_same, sA_ne, ud_eq, ud_ne, Int.add_zero, Int.reduceAdd]; omega)) rfl ?_
              refine v_ireturn0 xB_195 dX11_judge_63 xK_195 ?_
              first | (have hw2 : (-5 : Int) = _ := hw; rw [← hw2] at o3; exact o3 (by omega)) | (rw [show (m 81 22 - k).toNat = (m 81 22 - (k + 1)).toNat + 1 by omega, jdF] at hw; rw [if_pos (by omega)] at hw; rw [← hw] at o3; exact o3 (by omega)) | (rw [show (m 81 22 - k).toNat = (m 81 22 - (k + 1)).toNat + 1 by omega, jdF] at hw; rw [if_neg (by omega), if_neg (by have := lc_ne (by assumption); intro e; apply this; rw [← e]; congr 1; omega)] at hw; rw [← hw] at o3; exact o3 (by omega))
      · exact ⟨rfl, rfl⟩
    · refine v_bipush (n := 21) xB_195 dX11_judge_19 ⟨by decide, by decide⟩ rfl ?_
      refine v_ireturn0 xB_195 dX11_judge_21 xK_195 ?_
      first | exact o1 (by first | omega | (simp only [sA_same, sA_s, ud_s, Int.reduceEq, if_true, if_false, ite_true, ite_false, ↓reduceIte, and_true, true_and, eq_self, Int.add_zero, Int.reduceAdd]; omega) | (simp (disch := omega) only [sA_same, sA_ne, ud_eq, ud_ne, Int.add_zero, Int.reduceAdd]; omega)) | exact o2 (by first | omega | (simp only [sA_same, sA_s, ud_s, Int.reduceEq, if_true, if_false, ite_true, ite_false, ↓reduceIte, and_true, true_and, eq_self, Int.add_zero, Int.reduceAdd]; omega) | (simp (disch := omega) only [sA_same, sA_ne, ud_eq, ud_ne, Int.add_zero, Int.reduceAdd]; omega)) | exact o3 (by first | omega | (simp only [sA_same, sA_s, ud_s, Int.reduceEq, if_true, if_false, ite_true, ite_false, ↓reduceIte, and_true, true_and, eq_self, Int.add_zero, Int.reduceAdd]; omega) | (simp (disch := omega) only [sA_same, sA_ne, ud_eq, ud_ne, Int.add_zero, Int.reduceAdd]; omega))
  · refine v_if_ne_n (n := 8) xB_195 dX11_judge_5 (by decide) rfl (by decide) ?_
    refine v_iconst (n := 9) xB_195 dX11_judge_8 ⟨by decide, by decide⟩ rfl ?_
    refine v_ireturn0 xB_195 dX11_judge_9 xK_195 ?_
    first | exact o1 (by first | omega | (simp only [sA_same, sA_s, ud_s, Int.reduceEq, if_true, if_false, ite_true, ite_false, ↓reduceIte, and_true, true_and, eq_self, Int.add_zero, Int.reduceAdd]; omega) | (simp (disch := omega) only [sA_same, sA_ne, ud_eq, ud_ne, Int.add_zero, Int.reduceAdd]; omega)) | exact o2 (by first | omega | (simp only [sA_same, sA_s, ud_s, Int.reduceEq, if_true, if_false, ite_true, ite_false, ↓reduceIte, and_true, true_and, eq_self, Int.add_zero, Int.reduceAdd]; omega) | (simp (disch := omega) only [sA_same, sA_ne, ud_eq, ud_ne, Int.add_zero, Int.reduceAdd]; omega)) | exact o3 (by first | omega | (simp only [sA_same, sA_s, ud_s, Int.reduceEq, if_true, if_false, ite_true, ite_false, ↓reduceIte, and_true, true_and, eq_self, Int.add_zero, Int.reduceAdd]; omega) | (simp (disch := omega) only [sA_same, sA_ne, ud_eq, ud_ne, Int.add_zero, Int.reduceAdd]; omega))
