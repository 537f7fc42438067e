/-! What is asked: the class, the rest. -/
set_option maxHeartbeats 1000000 in
theorem k_after {d : Nat} {m0 : PM} {CF : Int → CLs} {t j w : Int} {m : PM} {dy : List (Nat × Nat)} {L : Nat} {Q : Option PV → PS → Prop} (hd : 7 ≤ d) (hI : Inv m0 m dy) (hJ : JF m dy CF) (o1 : ∀ m' : PM, KFr m m' → Q (some (.inl (AF m CF t j w))) (m', (none, (dy, L)))) : C d 88 [.inr (.inr 0), .inl t, .inl j, .inl w] (m, (none, (dy, L))) Q := by
  refine C_go (k := 6) hd xL_88 (fun d hd => ?_)
  show V d 88 (0, ([some (.inr (.inr 0)), some (.inl t), some (.inl j), some (.inl w)], ([], (m, (none, (dy, L)))))) Q
  obtain ⟨s1, s2, t1, t2, j1, j2⟩ := If hI
  have It0 : 0 ≤ t → t < 5 → _ := fun a b => It hI (t := t) ⟨a, b⟩
  refine v_aload_n (n := 1) xB_88 dX10_after_0 rfl rfl ?_
  refine v_iload_n (n := 2) xB_88 dX10_after_1 rfl rfl ?_
  refine v_call_v (n := 5) xB_88 dX10_after_2 xO_88 iv_10_96 rfl (sh_0 _ _ _) rfl rfl rfl ?_
  refine k_isTray (by omega) (by first | omega | (simp only [sA_same, sA_s, ud_s, Int.reduceEq, if_true, if_false, ite_true, ite_false, ↓reduceIte, and_true, true_and, eq_self, Int.add_zero, Int.reduceAdd]; omega) | (simp (disch := omega) only [sA_same, sA_ne, ud_eq, ud_ne, Int.add_zero, Int.reduceAdd]; omega)) (fun g1 => ?_) (fun g2 => ?_)
  · refine v_if_eq_n (n := 8) xB_88 dX10_after_5 (by decide) rfl (by decide) ?_
    refine v_aload_n (n := 9) xB_88 dX10_after_8 rfl rfl ?_
    refine v_iload_n (n := 10) xB_88 dX10_after_9 rfl rfl ?_
    refine v_call_v (n := 13) xB_88 dX10_after_10 xO_88 iv_10_162 rfl (sh_0 _ _ _) rfl rfl rfl ?_
    refine k_isJob (by omega) (by first | omega | (simp only [sA_same, sA_s, ud_s, Int.reduceEq, if_true, if_false, ite_true, ite_false, ↓reduceIte, and_true, true_and, eq_self, Int.add_zero, Int.reduceAdd]; omega) | (simp (disch := omega) only [sA_same, sA_ne, ud_eq, ud_ne, Int.add_zero, Int.reduceAdd]; omega)) (fun g3 => ?_) (fun g4 => ?_)
    · refine v_if_ne_y (t := 18) xB_88 dX10_after_13 (by decide) rfl (by decide) ?_
      obtain ⟨i1, i2, i3, i4, i5, i6⟩ := It0 (by omega) (by omega)
      refine v_aload_n (n := 19) xB_88 dX10_after_18 rfl rfl ?_
      refine v_iload_n (n := 20) xB_88 dX10_after_19 rfl rfl ?_
      refine v_aload_n (n := 21) xB_88 dX10_after_20 rfl rfl ?_
      refine v_gf_s (n := 24) (kz := 0) xB_88 dX10_after_21 xO_88 fl_10_12 fg_10_0 (sh_0 _ _ _) rfl st_0_0 rfl ?_
      refine v_gf_s (n := 27) (kz := 1) xB_88 dX10_after_24 xO_88 fl_10_86 fg_6_1 (sh_1 _ _ _) rfl st_1_1 rfl ?_
      refine v_iload_n (n := 28) xB_88 dX10_after_27 rfl rfl ?_
      refine v_aald_s (n := 29) (lz := 5) xB_88 dX10_after_28 (sh_4 _ _ _) (by decide) rfl (by first | omega | (simp only [sA_same, sA_s, ud_s, Int.reduceEq, if_true, if_false, ite_true, ite_false, ↓reduceIte, and_true, true_and, eq_self, Int.add_zero, Int.reduceAdd]; omega) | (simp (disch := omega) only [sA_same, sA_ne, ud_eq, ud_ne, Int.add_zero, Int.reduceAdd]; omega)) (st_T (by omega)) rfl ?_
      refine v_gf_i (n := 32) (kz := 1) xB_88 dX10_after_29 xO_88 fl_10_102 fg_9_1 rfl (sh_T (by first | omega | (simp only [sA_same, sA_s, ud_s, Int.reduceEq, if_true, if_false, ite_true, ite_false, ↓reduceIte, and_true, true_and, eq_self, Int.add_zero, Int.reduceAdd]; omega) | (simp (disch := omega) only [sA_same, sA_ne, ud_eq, ud_ne, Int.add_zero, Int.reduceAdd]; omega)) _ _ _) rfl rfl ?_
      refine v_iload_n (n := 33) xB_88 dX10_after_32 rfl rfl ?_
      refine v_call_v (n := 36) xB_88 dX10_after_33 xO_88 iv_10_182 rfl (sh_0 _ _ _) rfl rfl rfl ?_
      refine k_tryRun (by omega) hI hJ (by first | omega | (simp only [sA_same, sA_s, ud_s, Int.reduceEq, if_true, if_false, ite_true, ite_false, ↓reduceIte, and_true, true_and, eq_self, Int.add_zero, Int.reduceAdd]; omega) | (simp (disch := omega) only [sA_same, sA_ne, ud_eq, ud_ne, Int.add_zero, Int.reduceAdd]; omega)) (by first | omega | (simp only [sA_same, sA_s, ud_s, Int.reduceEq, if_true, if_false, ite_true, ite_false, ↓reduceIte, and_true, true_and, eq_self, Int.add_zero, Int.reduceAdd]; omega) | (simp (disch := omega) only [sA_same, sA_ne, ud_eq, ud_ne, Int.add_zero, Int.reduceAdd]; omega)) (by first | omega | (simp only [sA_same, sA_s, ud_s, Int.reduceEq, if_true, if_false, ite_true, ite_false, ↓reduceIte, and_true, true_and, eq_self, Int.add_zero, Int.reduceAdd]; omega) | (simp (disch := omega) only [sA_same, sA_ne, ud_eq, ud_ne, Int.add_zero, Int.reduceAdd]; omega)) (fun mA hK e62 e63 e60 e61 => ?_)
      rw [i2] at e63 e61
      clear e60
      have e60 := e61
      refine v_iload_n (n := 37) xB_88 dX10_after_36 rfl rfl ?_
      refine v_if_ne (t := 48) (n := 40) xB_88 dX10_after_37 (by decide) rfl rfl (fun g5 => ?_) (fun g5 => ?_)
      · refine v_iload_n (n := 49) xB_88 dX10_after_48 rfl rfl ?_
        refine v_iconst (n := 50) xB_88 dX10_after_49 ⟨by decide, by decide⟩ rfl ?_
        refine v_ic_ne (t := 61) (n := 53) xB_88 dX10_after_50 (by decide) rfl rfl (fun g6 => ?_) (fun g6 => ?_)
        · refine v_iload_n (n := 62) xB_88 dX10_after_61 rfl rfl ?_
          refine v_iconst (n := 63) xB_88 dX10_after_62 ⟨by decide, by decide⟩ rfl ?_
          refine v_ic_ne (t := 76) (n := 66) xB_88 dX10_after_63 (by decide) rfl rfl (fun g7 => ?_) (fun g7 => ?_)
          · refine v_iload_n (n := 77) xB_88 dX10_after_76 rfl rfl ?_
            refine v_bipush (n := 79) xB_88 dX10_after_77 ⟨by decide, by decide⟩ rfl ?_
            refine v_bipush (n := 81) xB_88 dX10_after_79 ⟨by decide, by decide⟩ rfl ?_
            refine v_aload_n (n := 82) xB_88 dX10_after_81 rfl rfl ?_
            refine v_gf_s (n := 85) (kz := 7) xB_88 dX10_after_82 xO_88 fl_10_44 fg_10_7 (sh_0 _ _ _) rfl st_0_7 rfl ?_
            refine v_gf_i (n := 88) (kz := 1) xB_88 dX10_after_85 xO_88 fl_10_79 fg_4_1 rfl (sh_62 _ _ _) rfl rfl ?_
            refine v_iadd (n := 89) xB_88 dX10_after_88 (by first | omega | (simp only [sA_same, sA_s, ud_s, Int.reduceEq, if_true, if_false, ite_true, ite_false, ↓reduceIte, and_true, true_and, eq_self, Int.add_zero, Int.reduceAdd]; omega) | (simp (disch := omega) only [sA_same, sA_ne, ud_eq, ud_ne, Int.add_zero, Int.reduceAdd]; omega)) rfl ?_
            refine v_iconst (n := 90) xB_88 dX10_after_89 ⟨by decide, by decide⟩ rfl ?_
            refine v_isub (n := 91) xB_88 dX10_after_90 (by first | omega | (simp only [sA_same, sA_s, ud_s, Int.reduceEq, if_true, if_false, ite_true, ite_false, ↓reduceIte, and_true, true_and, eq_self, Int.add_zero, Int.reduceAdd]; omega) | (simp (disch := omega) only [sA_same, sA_ne, ud_eq, ud_ne, Int.add_zero, Int.reduceAdd]; omega)) rfl ?_
            refine v_call_s (n := 94) xB_88 dX10_after_91 xO_88 sp_10_69 (Or.inl rfl) iv_10_69 rfl rfl rfl rfl ?_
            refine k_isWithin (by omega)  (fun g8 => ?_) (fun g9 => ?_)
            · refine v_if_eq_n (n := 97) xB_88 dX10_after_94 (by decide) rfl (by decide) ?_
              refine v_aload_n (n := 98) xB_88 dX10_after_97 rfl rfl ?_
              refine v_gf_s (n := 101) (kz := 7) xB_88 dX10_after_98 xO_88 fl_10_44 fg_10_7 (sh_0 _ _ _) rfl st_0_7 rfl ?_
              refine v_iload_n (n := 102) xB_88 dX10_after_101 rfl rfl ?_
              refine v_bipush (n := 104) xB_88 dX10_after_102 ⟨by decide, by decide⟩ rfl ?_
              refine v_isub (n := 105) xB_88 dX10_after_104 (by first | omega | (simp only [sA_same, sA_s, ud_s, Int.reduceEq, if_true, if_false, ite_true, ite_false, ↓reduceIte, and_true, true_and, eq_self, Int.add_zero, Int.reduceAdd]; omega) | (simp (disch := omega) only [sA_same, sA_ne, ud_eq, ud_ne, Int.add_zero, Int.reduceAdd]; omega)) rfl ?_
              refine v_iconst (n := 106) xB_88 dX10_after_105 ⟨by decide, by decide⟩ rfl ?_
              refine v_call_v (n := 109) xB_88 dX10_after_106 xO_88 iv_10_144 rfl (sh_62 _ _ _) rfl rfl rfl ?_
              refine k_pageOn (by omega) (Or.inr (Or.inr (Or.inl rfl))) (by first | omega | (simp only [sA_same, sA_s, ud_s, Int.reduceEq, if_true, if_false, ite_true, ite_false, ↓reduceIte, and_true, true_and, eq_self, Int.add_zero, Int.reduceAdd]; omega) | (simp (disch := omega) only [sA_same, sA_ne, ud_eq, ud_ne, Int.add_zero, Int.reduceAdd]; omega)) (by omega) hK.2.2.1 ?_
              refine v_ireturn0 xB_88 dX10_after_109 xK_88 ?_
              first
              | (refine q_eqI (o1 _ (KFr_refl hI)) ?_; unfold AF; rw [if_pos (by omega)]; done)
              | (refine q_eqI (o1 _ hK) ?_
                 unfold AF
                 first
                 | (rw [if_neg (by omega), if_pos (by omega)]; unfold RT; rw [e62]; exact (rtF_congr e63).symm)
                 | (rw [if_neg (by omega), if_neg (by omega), if_pos (by omega)]; exact e60.symm)
                 | (rw [if_neg (by omega), if_neg (by omega), if_neg (by omega), if_pos (by omega)]; rw [e62]; exact (swF_congr e63 99).symm)
                 | (rw [if_neg (by omega), if_neg (by omega), if_neg (by omega), if_neg (by omega), if_pos (by omega)]; rw [e62, pon_oq (by omega) (Or.inl rfl)]; unfold onQ onF; rw [if_pos (by omega), Int.add_zero]; unfold pgk; rw [show (62 : Int) + 1 = 63 from rfl, e63 _ (by omega) (by omega)])
                 | (rw [if_neg (by omega), if_neg (by omega), if_neg (by omega), if_neg (by omega), if_neg (by omega), if_pos (by omega)]; rw [e62, pon_oq (by omega) (Or.inr rfl)]; unfold onQ onF; rw [if_pos (by omega)]; unfold pgk; rw [show (62 : Int) + 1 = 63 from rfl, e63 _ (by omega) (by omega)])
                 | (rw [if_neg (by omega), if_neg (by omega), if_neg (by omega), if_neg (by omega), if_neg (by omega), if_neg (by omega)]; done))
            · refine v_if_eq_y (t := 110) xB_88 dX10_after_94 (by decide) rfl (by decide) ?_
              refine v_iload_n (n := 111) xB_88 dX10_after_110 rfl rfl ?_
              refine v_bipush (n := 113) xB_88 dX10_after_111 ⟨by decide, by decide⟩ rfl ?_
              refine v_bipush (n := 115) xB_88 dX10_after_113 ⟨by decide, by decide⟩ rfl ?_
              refine v_aload_n (n := 116) xB_88 dX10_after_115 rfl rfl ?_
              refine v_gf_s (n := 119) (kz := 7) xB_88 dX10_after_116 xO_88 fl_10_44 fg_10_7 (sh_0 _ _ _) rfl st_0_7 rfl ?_
              refine v_gf_i (n := 122) (kz := 1) xB_88 dX10_after_119 xO_88 fl_10_79 fg_4_1 rfl (sh_62 _ _ _) rfl rfl ?_
              refine v_iadd (n := 123) xB_88 dX10_after_122 (by first | omega | (simp only [sA_same, sA_s, ud_s, Int.reduceEq, if_true, if_false, ite_true, ite_false, ↓reduceIte, and_true, true_and, eq_self, Int.add_zero, Int.reduceAdd]; omega) | (simp (disch := omega) only [sA_same, sA_ne, ud_eq, ud_ne, Int.add_zero, Int.reduceAdd]; omega)) rfl ?_
              refine v_iconst (n := 124) xB_88 dX10_after_123 ⟨by decide, by decide⟩ rfl ?_
              refine v_isub (n := 125) xB_88 dX10_after_124 (by first | omega | (simp only [sA_same, sA_s, ud_s, Int.reduceEq, if_true, if_false, ite_true, ite_false, ↓reduceIte, and_true, true_and, eq_self, Int.add_zero, Int.reduceAdd]; omega) | (simp (disch := omega) only [sA_same, sA_ne, ud_eq, ud_ne, Int.add_zero, Int.reduceAdd]; omega)) rfl ?_
              refine v_call_s (n := 128) xB_88 dX10_after_125 xO_88 sp_10_69 (Or.inl rfl) iv_10_69 rfl rfl rfl rfl ?_
              refine k_isWithin (by omega)  (fun g10 => ?_) (fun g11 => ?_)
              · refine v_if_eq_n (n := 131) xB_88 dX10_after_128 (by decide) rfl (by decide) ?_
                refine v_aload_n (n := 132) xB_88 dX10_after_131 rfl rfl ?_
                refine v_gf_s (n := 135) (kz := 7) xB_88 dX10_after_132 xO_88 fl_10_44 fg_10_7 (sh_0 _ _ _) rfl st_0_7 rfl ?_
                refine v_iload_n (n := 136) xB_88 dX10_after_135 rfl rfl ?_
                refine v_bipush (n := 138) xB_88 dX10_after_136 ⟨by decide, by decide⟩ rfl ?_
                refine v_isub (n := 139) xB_88 dX10_after_138 (by first | omega | (simp only [sA_same, sA_s, ud_s, Int.reduceEq, if_true, if_false, ite_true, ite_false, ↓reduceIte, and_true, true_and, eq_self, Int.add_zero, Int.reduceAdd]; omega) | (simp (disch := omega) only [sA_same, sA_ne, ud_eq, ud_ne, Int.add_zero, Int.reduceAdd]; omega)) rfl ?_
                refine v_iconst (n := 140) xB_88 dX10_after_139 ⟨by decide, by decide⟩ rfl ?_
                refine v_call_v (n := 143) xB_88 dX10_after_140 xO_88 iv_10_144 rfl (sh_62 _ _ _) rfl rfl rfl ?_
                refine k_pageOn (by omega) (Or.inr (Or.inr (Or.inl rfl))) (by first | omega | (simp only [sA_same, sA_s, ud_s, Int.reduceEq, if_true, if_false, ite_true, ite_false, ↓reduceIte, and_true, true_and, eq_self, Int.add_zero, Int.reduceAdd]; omega) | (simp (disch := omega) only [sA_same, sA_ne, ud_eq, ud_ne, Int.add_zero, Int.reduceAdd]; omega)) (by omega) hK.2.2.1 ?_
                refine v_ireturn0 xB_88 dX10_after_143 xK_88 ?_
                first
                | (refine q_eqI (o1 _ (KFr_refl hI)) ?_; unfold AF; rw [if_pos (by omega)]; done)
                | (refine q_eqI (o1 _ hK) ?_
                   unfold AF
                   first
                   | (rw [if_neg (by omega), if_pos (by omega)]; unfold RT; rw [e62]; exact (rtF_congr e63).symm)
                   | (rw [if_neg (by omega), if_neg (by omega), if_pos (by omega)]; exact e60.symm)
                   | (rw [if_neg (by omega), if_neg (by omega), if_neg (by omega), if_pos (by omega)]; rw [e62]; exact (swF_congr e63 99).symm)
                   | (rw [if_neg (by omega), if_neg (by omega), if_neg (by omega), if_neg (by omega), if_pos (by omega)]; rw [e62, pon_oq (by omega) (Or.inl rfl)]; unfold onQ onF; rw [if_pos (by omega), Int.add_zero]; unfold pgk; rw [show (62 : Int) + 1 = 63 from rfl, e63 _ (by omega) (by omega)])
                   | (rw [if_neg (by omega), if_neg (by omega), if_neg (by omega), if_neg (by omega), if_neg (by omega), if_pos (by omega)]; rw [e62, pon_oq (by omega) (Or.inr rfl)]; unfold onQ onF; rw [if_pos (by omega)]; unfold pgk; rw [show (62 : Int) + 1 = 63 from rfl, e63 _ (by omega) (by omega)])
                   | (rw [if_neg (by omega), if_neg (by omega), if_neg (by omega), if_neg (by omega), if_neg (by omega), if_neg (by omega)]; done))
              · refine v_if_eq_y (t := 144) xB_88 dX10_after_128 (by decide) rfl (by decide) ?_
                refine v_iconst (n := 145) xB_88 dX10_after_144 ⟨by decide, by decide⟩ rfl ?_
                refine v_ireturn0 xB_88 dX10_after_145 xK_88 ?_
                first
                | (refine q_eqI (o1 _ (KFr_refl hI)) ?_; unfold AF; rw [if_pos (by omega)]; done)
                | (refine q_eqI (o1 _ hK) ?_
                   unfold AF
                   first
                   | (rw [if_neg (by omega), if_pos (by omega)]; unfold RT; rw [e62]; exact (rtF_congr e63).symm)
                   | (rw [if_neg (by omega), if_neg (by omega), if_pos (by omega)]; exact e60.symm)
                   | (rw [if_neg (by omega), if_neg (by omega), if_neg (by omega), if_pos (by omega)]; rw [e62]; exact (swF_congr e63 99).symm)
                   | (rw [if_neg (by omega), if_neg (by omega), if_neg (by omega), if_neg (by omega), if_pos (by omega)]; rw [e62, pon_oq (by omega) (Or.inl rfl)]; unfold onQ onF; rw [if_pos (by omega), Int.add_zero]; unfold pgk; rw [show (62 : Int) + 1 = 63 from rfl, e63 _ (by omega) (by omega)])
                   | (rw [if_neg (by omega), if_neg (by omega), if_neg (by omega), if_neg (by omega), if_neg (by omega), if_pos (by omega)]; rw [e62, pon_oq (by omega) (Or.inr rfl)]; unfold onQ onF; rw [if_pos (by omega)]; unfold pgk; rw [show (62 : Int) + 1 = 63 from rfl, e63 _ (by omega) (by omega)])
                   | (rw [if_neg (by omega), if_neg (by omega), if_neg (by omega), if_neg (by omega), if_neg (by omega), if_neg (by omega)]; done))
          · refine v_aload_n (n := 67) xB_88 dX10_after_66 rfl rfl ?_
            refine v_gf_s (n := 70) (kz := 7) xB_88 dX10_after_67 xO_88 fl_10_44 fg_10_7 (sh_0 _ _ _) rfl st_0_7 rfl ?_
            refine v_bipush (n := 72) xB_88 dX10_after_70 ⟨by decide, by decide⟩ rfl ?_
            refine v_call_v (n := 75) xB_88 dX10_after_72 xO_88 iv_10_155 rfl (sh_62 _ _ _) rfl rfl rfl ?_
            refine k_sidesWith (by omega) (Or.inr (Or.inr (Or.inl rfl))) (by first | omega | (simp only [sA_same, sA_s, ud_s, Int.reduceEq, if_true, if_false, ite_true, ite_false, ↓reduceIte, and_true, true_and, eq_self, Int.add_zero, Int.reduceAdd]; omega) | (simp (disch := omega) only [sA_same, sA_ne, ud_eq, ud_ne, Int.add_zero, Int.reduceAdd]; omega)) hK.2.2.1 ?_
            refine v_ireturn0 xB_88 dX10_after_75 xK_88 ?_
            first
            | (refine q_eqI (o1 _ (KFr_refl hI)) ?_; unfold AF; rw [if_pos (by omega)]; done)
            | (refine q_eqI (o1 _ hK) ?_
               unfold AF
               first
               | (rw [if_neg (by omega), if_pos (by omega)]; unfold RT; rw [e62]; exact (rtF_congr e63).symm)
               | (rw [if_neg (by omega), if_neg (by omega), if_pos (by omega)]; exact e60.symm)
               | (rw [if_neg (by omega), if_neg (by omega), if_neg (by omega), if_pos (by omega)]; rw [e62]; exact (swF_congr e63 99).symm)
               | (rw [if_neg (by omega), if_neg (by omega), if_neg (by omega), if_neg (by omega), if_pos (by omega)]; rw [e62, pon_oq (by omega) (Or.inl rfl)]; unfold onQ onF; rw [if_pos (by omega), Int.add_zero]; unfold pgk; rw [show (62 : Int) + 1 = 63 from rfl, e63 _ (by omega) (by omega)])
               | (rw [if_neg (by omega), if_neg (by omega), if_neg (by omega), if_neg (by omega), if_neg (by omega), if_pos (by omega)]; rw [e62, pon_oq (by omega) (Or.inr rfl)]; unfold onQ onF; rw [if_pos (by omega)]; unfold pgk; rw [show (62 : Int) + 1 = 63 from rfl, e63 _ (by omega) (by omega)])
               | (rw [if_neg (by omega), if_neg (by omega), if_neg (by omega), if_neg (by omega), if_neg (by omega), if_neg (by omega)]; done))
        · refine v_aload_n (n := 54) xB_88 dX10_after_53 rfl rfl ?_
          refine v_gf_s (n := 57) (kz := 6) xB_88 dX10_after_54 xO_88 fl_10_37 fg_10_6 (sh_0 _ _ _) rfl st_0_6 rfl ?_
          refine v_gf_i (n := 60) (kz := 2) xB_88 dX10_after_57 xO_88 fl_10_175 fg_1_2 rfl (sh_60 _ _ _) rfl rfl ?_
          refine v_ireturn0 xB_88 dX10_after_60 xK_88 ?_
          first
          | (refine q_eqI (o1 _ (KFr_refl hI)) ?_; unfold AF; rw [if_pos (by omega)]; done)
          | (refine q_eqI (o1 _ hK) ?_
             unfold AF
             first
             | (rw [if_neg (by omega), if_pos (by omega)]; unfold RT; rw [e62]; exact (rtF_congr e63).symm)
             | (rw [if_neg (by omega), if_neg (by omega), if_pos (by omega)]; exact e60.symm)
             | (rw [if_neg (by omega), if_neg (by omega), if_neg (by omega), if_pos (by omega)]; rw [e62]; exact (swF_congr e63 99).symm)
             | (rw [if_neg (by omega), if_neg (by omega), if_neg (by omega), if_neg (by omega), if_pos (by omega)]; rw [e62, pon_oq (by omega) (Or.inl rfl)]; unfold onQ onF; rw [if_pos (by omega), Int.add_zero]; unfold pgk; rw [show (62 : Int) + 1 = 63 from rfl, e63 _ (by omega) (by omega)])
             | (rw [if_neg (by omega), if_neg (by omega), if_neg (by omega), if_neg (by omega), if_neg (by omega), if_pos (by omega)]; rw [e62, pon_oq (by omega) (Or.inr rfl)]; unfold onQ onF; rw [if_pos (by omega)]; unfold pgk; rw [show (62 : Int) + 1 = 63 from rfl, e63 _ (by omega) (by omega)])
             | (rw [if_neg (by omega), if_neg (by omega), if_neg (by omega), if_neg (by omega), if_neg (by omega), if_neg (by omega)]; done))
      · refine v_aload_n (n := 41) xB_88 dX10_after_40 rfl rfl ?_
        refine v_gf_s (n := 44) (kz := 7) xB_88 dX10_after_41 xO_88 fl_10_44 fg_10_7 (sh_0 _ _ _) rfl st_0_7 rfl ?_
        refine v_call_v (n := 47) xB_88 dX10_after_44 xO_88 iv_10_138 rfl (sh_62 _ _ _) rfl rfl rfl ?_
        refine k_rights (by omega) (Or.inr (Or.inr (Or.inl rfl))) (by first | omega | (simp only [sA_same, sA_s, ud_s, Int.reduceEq, if_true, if_false, ite_true, ite_false, ↓reduceIte, and_true, true_and, eq_self, Int.add_zero, Int.reduceAdd]; omega) | (simp (disch := omega) only [sA_same, sA_ne, ud_eq, ud_ne, Int.add_zero, Int.reduceAdd]; omega)) hK.2.2.1 ?_
        refine v_ireturn0 xB_88 dX10_after_47 xK_88 ?_
        first
        | (refine q_eqI (o1 _ (KFr_refl hI)) ?_; unfold AF; rw [if_pos (by omega)]; done)
        | (refine q_eqI (o1 _ hK) ?_
           unfold AF
           first
           | (rw [if_neg (by omega), if_pos (by omega)]; unfold RT; rw [e62]; exact (rtF_congr e63).symm)
           | (rw [if_neg (by omega), if_neg (by omega), if_pos (by omega)]; exact e60.symm)
           | (rw [if_neg (by omega), if_neg (by omega), if_neg (by omega), if_pos (by omega)]; rw [e62]; exact (swF_congr e63 99).symm)
           | (rw [if_neg (by omega), if_neg (by omega), if_neg (by omega), if_neg (by omega), if_pos (by omega)]; rw [e62, pon_oq (by omega) (Or.inl rfl)]; unfold onQ onF; rw [if_pos (by omega), Int.add_zero]; unfold pgk; rw [show (62 : Int) + 1 = 63 from rfl, e63 _ (by omega) (by omega)])
           | (rw [if_neg (by omega), if_neg (by omega), if_neg (by omega), if_neg (by omega), if_neg (by omega), if_pos (by omega)]; rw [e62, pon_oq (by omega) (Or.inr rfl)]; unfold onQ onF; rw [if_pos (by omega)]; unfold pgk; rw [show (62 : Int) + 1 = 63 from rfl, e63 _ (by omega) (by omega)])
           | (rw [if_neg (by omega), if_neg (by omega), if_neg (by omega), if_neg (by omega), if_neg (by omega), if_neg (by omega)]; done))
    · refine v_if_ne_n (n := 16) xB_88 dX10_after_13 (by decide) rfl (by decide) ?_
      refine v_iconst (n := 17) xB_88 dX10_after_16 ⟨by decide, by decide⟩ rfl ?_
      refine v_ireturn0 xB_88 dX10_after_17 xK_88 ?_
      first
      | (refine q_eqI (o1 _ (KFr_refl hI)) ?_; unfold AF; rw [if_pos (by omega)]; done)
      | (refine q_eqI (o1 _ hK) ?_
         unfold AF
         first
         | (rw [if_neg (by omega), if_pos (by omega)]; unfold RT; rw [e62]; exact (rtF_congr e63).symm)
         | (rw [if_neg (by omega), if_neg (by omega), if_pos (by omega)]; exact e60.symm)
         | (rw [if_neg (by omega), if_neg (by omega), if_neg (by omega), if_pos (by omega)]; rw [e62]; exact (swF_congr e63 99).symm)
         | (rw [if_neg (by omega), if_neg (by omega), if_neg (by omega), if_neg (by omega), if_pos (by omega)]; rw [e62, pon_oq (by omega) (Or.inl rfl)]; unfold onQ onF; rw [if_pos (by omega), Int.add_zero]; unfold pgk; rw [show (62 : Int) + 1 = 63 from rfl, e63 _ (by omega) (by omega)])
         | (rw [if_neg (by omega), if_neg (by omega), if_neg (by omega), if_neg (by omega), if_neg (by omega), if_pos (by omega)]; rw [e62, pon_oq (by omega) (Or.inr rfl)]; unfold onQ onF; rw [if_pos (by omega)]; unfold pgk; rw [show (62 : Int) + 1 = 63 from rfl, e63 _ (by omega) (by omega)])
         | (rw [if_neg (by omega), if_neg (by omega), if_neg (by omega), if_neg (by omega), if_neg (by omega), if_neg (by omega)]; done))
  · refine v_if_eq_y (t := 16) xB_88 dX10_after_5 (by decide) rfl (by decide) ?_
    refine v_iconst (n := 17) xB_88 dX10_after_16 ⟨by decide, by decide⟩ rfl ?_
    refine v_ireturn0 xB_88 dX10_after_17 xK_88 ?_
    first
    | (refine q_eqI (o1 _ (KFr_refl hI)) ?_; unfold AF; rw [if_pos (by omega)]; done)
    | (refine q_eqI (o1 _ hK) ?_
       unfold AF
       first
       | (rw [if_neg (by omega), if_pos (by omega)]; unfold RT; rw [e62]; exact (rtF_congr e63).symm)
       | (rw [if_neg (by omega), if_neg (by omega), if_pos (by omega)]; exact e60.symm)
       | (rw [if_neg (by omega), if_neg (by omega), if_neg (by omega), if_pos (by omega)]; rw [e62]; exact (swF_congr e63 99).symm)
       | (rw [if_neg (by omega), if_neg (by omega), if_neg (by omega), if_neg (by omega), if_pos (by omega)]; rw [e62, pon_oq (by omega) (Or.inl rfl)]; unfold onQ onF; rw [if_pos (by omega), Int.add_zero]; unfold pgk; rw [show (62 : Int) + 1 = 63 from rfl, e63 _ (by omega) (by omega)])
       | (rw [if_neg (by omega), if_neg (by omega), if_neg (by omega), if_neg (by omega), if_neg (by omega), if_pos (by omega)]; rw [e62, pon_oq (by omega) (Or.inr rfl)]; unfold onQ onF; rw [if_pos (by omega)]; unfold pgk; rw [show (62 : Int) + 1 = 63 from rfl, e63 _ (by omega) (by omega)])
       | (rw [if_neg (by omega), if_neg (by omega), if_neg (by omega), if_neg (by omega), if_neg (by omega), if_neg (by omega)]; done))
