/-! Uses: the class. -/
set_option maxHeartbeats 1000000 in
theorem k_uses {d : Nat} {m0 : PM} {CF : Int → CLs} {t j : Int} {m : PM} {dy : List (Nat × Nat)} {L : Nat} {Q : Option PV → PS → Prop} (hd : 6 ≤ d) (hI : Inv m0 m dy) (hJ : JF m dy CF) (o1 : ∀ m' : PM, KFr m m' → Q (some (.inl (UF m CF t j))) (m', (none, (dy, L)))) : C d 90 [.inr (.inr 0), .inl t, .inl j] (m, (none, (dy, L))) Q := by
  refine C_go (k := 5) hd xL_90 (fun d hd => ?_)
  show V d 90 (0, ([some (.inr (.inr 0)), some (.inl t), some (.inl j)], ([], (m, (none, (dy, L)))))) Q
  obtain ⟨s1, s2, t1, t2, j1, j2⟩ := If hI
  have It0 : 0 ≤ t → t < 5 → _ := fun a b => It hI (t := t) ⟨a, b⟩
  refine v_aload_n (n := 1) xB_90 dX10_uses_0 rfl rfl ?_
  refine v_iload_n (n := 2) xB_90 dX10_uses_1 rfl rfl ?_
  refine v_call_v (n := 5) xB_90 dX10_uses_2 xO_90 iv_10_96 rfl (sh_0 _ _ _) rfl rfl rfl ?_
  refine k_isTray (by omega) (by first | omega | (simp only [sA_same, sA_s, ud_s, Int.reduceEq, if_true, if_false, ite_true, ite_false, ↓reduceIte, and_true, true_and, eq_self, Int.add_zero, Int.reduceAdd]; omega) | (simp (disch := omega) only [sA_same, sA_ne, ud_eq, ud_ne, Int.add_zero, Int.reduceAdd]; omega)) (fun g1 => ?_) (fun g2 => ?_)
  · (try simp (disch := omega) only [sA_same, sA_ne, sA_sA, sA_sr, sB_s, ud_eq, ud_ne, ud_ud, ud_sr, uB_s, Int.add_zero, Int.reduceAdd] at g1)
    refine v_if_eq_n (n := 8) xB_90 dX10_uses_5 (by decide) rfl (by decide) ?_
    refine v_aload_n (n := 9) xB_90 dX10_uses_8 rfl rfl ?_
    refine v_iload_n (n := 10) xB_90 dX10_uses_9 rfl rfl ?_
    refine v_call_v (n := 13) xB_90 dX10_uses_10 xO_90 iv_10_162 rfl (sh_0 _ _ _) rfl rfl rfl ?_
    refine k_isJob (by omega) (by first | omega | (simp only [sA_same, sA_s, ud_s, Int.reduceEq, if_true, if_false, ite_true, ite_false, ↓reduceIte, and_true, true_and, eq_self, Int.add_zero, Int.reduceAdd]; omega) | (simp (disch := omega) only [sA_same, sA_ne, ud_eq, ud_ne, Int.add_zero, Int.reduceAdd]; omega)) (fun g3 => ?_) (fun g4 => ?_)
    · (try simp (disch := omega) only [sA_same, sA_ne, sA_sA, sA_sr, sB_s, ud_eq, ud_ne, ud_ud, ud_sr, uB_s, Int.add_zero, Int.reduceAdd] at g3)
      refine v_if_ne_y (t := 18) xB_90 dX10_uses_13 (by decide) rfl (by decide) ?_
      obtain ⟨i1, i2, i3, i4, i5, i6⟩ := It0 (by omega) (by omega)
      refine v_aload_n (n := 19) xB_90 dX10_uses_18 rfl rfl ?_
      refine v_gf_s (n := 22) (kz := 7) xB_90 dX10_uses_19 xO_90 fl_10_44 fg_10_7 (sh_0 _ _ _) rfl st_0_7 rfl ?_
      refine v_iconst (n := 23) xB_90 dX10_uses_22 ⟨by decide, by decide⟩ rfl ?_
      refine v_pf_i (n := 26) (kz := 1) xB_90 dX10_uses_23 xO_90 fl_10_79 fg_4_1 (Or.inl fn_4_1) (sh_62 _ _ _) (by decide) rfl rfl ?_
      (try simp (disch := omega) only [sA_same, sA_ne, sA_sA, sA_sr, sB_s, ud_eq, ud_ne, ud_ud, ud_sr, uB_s, Int.add_zero, Int.reduceAdd])
      refine v_aload_n (n := 27) xB_90 dX10_uses_26 rfl rfl ?_
      refine v_gf_s (n := 30) (kz := 7) xB_90 dX10_uses_27 xO_90 fl_10_44 fg_10_7 (sh_0 _ _ _) rfl st_0_7 rfl ?_
      refine v_bipush (n := 32) xB_90 dX10_uses_30 ⟨by decide, by decide⟩ rfl ?_
      refine v_call_v (n := 35) xB_90 dX10_uses_32 xO_90 iv_10_128 rfl (sh_62 _ _ _) rfl rfl rfl ?_
      refine k_putBlank (e := 12) (by omega) (Or.inr (Or.inr (Or.inl rfl))) (by first | omega | (simp only [sA_same, sA_s, ud_s, Int.reduceEq, if_true, if_false, ite_true, ite_false, ↓reduceIte, and_true, true_and, eq_self, Int.add_zero, Int.reduceAdd]; omega) | (simp (disch := omega) only [sA_same, sA_ne, ud_eq, ud_ne, Int.add_zero, Int.reduceAdd]; omega)) (by first | omega | (simp only [sA_same, sA_s, ud_s, Int.reduceEq, if_true, if_false, ite_true, ite_false, ↓reduceIte, and_true, true_and, eq_self, Int.add_zero, Int.reduceAdd]; omega) | (simp (disch := omega) only [sA_same, sA_ne, ud_eq, ud_ne, Int.add_zero, Int.reduceAdd]; omega)) (by simp (disch := omega) only [sA_same, sA_ne, sA_sA, sA_sr, sB_s, ud_eq, ud_ne, ud_ud, ud_sr, uB_s, Int.add_zero, Int.reduceAdd]; exact hI.2.1.2.1) (by simp (disch := omega) only [sA_same, sA_ne, sA_sA, sA_sr, sB_s, ud_eq, ud_ne, ud_ud, ud_sr, uB_s, Int.add_zero, Int.reduceAdd]; decide) (fun fp hp1 hp2 => ?_)
      (try simp (disch := omega) only [sA_same, sA_ne, sA_sA, sA_sr, sB_s, ud_eq, ud_ne, ud_ud, ud_sr, uB_s, Int.add_zero, Int.reduceAdd])
      refine v_aload_n (n := 36) xB_90 dX10_uses_35 rfl rfl ?_
      refine v_gf_s (n := 39) (kz := 6) xB_90 dX10_uses_36 xO_90 fl_10_37 fg_10_6 (sh_0 _ _ _) rfl st_0_6 rfl ?_
      refine v_aload_n (n := 40) xB_90 dX10_uses_39 rfl rfl ?_
      refine v_gf_s (n := 43) (kz := 7) xB_90 dX10_uses_40 xO_90 fl_10_44 fg_10_7 (sh_0 _ _ _) rfl st_0_7 rfl ?_
      refine v_aload_n (n := 44) xB_90 dX10_uses_43 rfl rfl ?_
      refine v_gf_s (n := 47) (kz := 0) xB_90 dX10_uses_44 xO_90 fl_10_12 fg_10_0 (sh_0 _ _ _) rfl st_0_0 rfl ?_
      refine v_gf_s (n := 50) (kz := 1) xB_90 dX10_uses_47 xO_90 fl_10_86 fg_6_1 (sh_1 _ _ _) rfl st_1_1 rfl ?_
      refine v_iload_n (n := 51) xB_90 dX10_uses_50 rfl rfl ?_
      refine v_aald_s (n := 52) (lz := 5) xB_90 dX10_uses_51 (sh_4 _ _ _) (by decide) rfl (by first | omega | (simp only [sA_same, sA_s, ud_s, Int.reduceEq, if_true, if_false, ite_true, ite_false, ↓reduceIte, and_true, true_and, eq_self, Int.add_zero, Int.reduceAdd]; omega) | (simp (disch := omega) only [sA_same, sA_ne, ud_eq, ud_ne, Int.add_zero, Int.reduceAdd]; omega)) (st_T (by omega)) rfl ?_
      refine v_aload_n (n := 53) xB_90 dX10_uses_52 rfl rfl ?_
      refine v_gf_s (n := 56) (kz := 0) xB_90 dX10_uses_53 xO_90 fl_10_12 fg_10_0 (sh_0 _ _ _) rfl st_0_0 rfl ?_
      refine v_gf_s (n := 59) (kz := 1) xB_90 dX10_uses_56 xO_90 fl_10_86 fg_6_1 (sh_1 _ _ _) rfl st_1_1 rfl ?_
      refine v_iload_n (n := 60) xB_90 dX10_uses_59 rfl rfl ?_
      refine v_aald_s (n := 61) (lz := 5) xB_90 dX10_uses_60 (sh_4 _ _ _) (by decide) rfl (by first | omega | (simp only [sA_same, sA_s, ud_s, Int.reduceEq, if_true, if_false, ite_true, ite_false, ↓reduceIte, and_true, true_and, eq_self, Int.add_zero, Int.reduceAdd]; omega) | (simp (disch := omega) only [sA_same, sA_ne, ud_eq, ud_ne, Int.add_zero, Int.reduceAdd]; omega)) (st_T (by omega)) rfl ?_
      refine v_gf_i (n := 64) (kz := 1) xB_90 dX10_uses_61 xO_90 fl_10_102 fg_9_1 rfl (sh_T (by first | omega | (simp only [sA_same, sA_s, ud_s, Int.reduceEq, if_true, if_false, ite_true, ite_false, ↓reduceIte, and_true, true_and, eq_self, Int.add_zero, Int.reduceAdd]; omega) | (simp (disch := omega) only [sA_same, sA_ne, ud_eq, ud_ne, Int.add_zero, Int.reduceAdd]; omega)) _ _ _) rfl rfl ?_
      (try simp (disch := omega) only [sA_same, sA_ne, sA_sA, sA_sr, sB_s, ud_eq, ud_ne, ud_ud, ud_sr, uB_s, Int.add_zero, Int.reduceAdd])
      refine v_aload_n (n := 65) xB_90 dX10_uses_64 rfl rfl ?_
      refine v_gf_s (n := 68) (kz := 4) xB_90 dX10_uses_65 xO_90 fl_10_30 fg_10_4 (sh_0 _ _ _) rfl st_0_4 rfl ?_
      refine v_iload_n (n := 69) xB_90 dX10_uses_68 rfl rfl ?_
      refine v_aald_d (n := 70) (lz := 6) xB_90 dX10_uses_69 (sh_59 _ _ _) (by decide) rfl (by first | omega | (simp only [sA_same, sA_s, ud_s, Int.reduceEq, if_true, if_false, ite_true, ite_false, ↓reduceIte, and_true, true_and, eq_self, Int.add_zero, Int.reduceAdd]; omega) | (simp (disch := omega) only [sA_same, sA_ne, ud_eq, ud_ne, Int.add_zero, Int.reduceAdd]; omega)) (st_59 (by omega)) rfl ?_
      (try simp (disch := omega) only [sA_same, sA_ne, sA_sA, sA_sr, sB_s, ud_eq, ud_ne, ud_ud, ud_sr, uB_s, Int.add_zero, Int.reduceAdd])
      refine v_call_v (n := 73) xB_90 dX10_uses_70 xO_90 iv_10_171 rfl (sh_60 _ _ _) rfl rfl rfl ?_
      refine k_copy (by omega) (Or.inr (Or.inr (Or.inl rfl))) (by first | omega | (simp only [sA_same, sA_s, ud_s, Int.reduceEq, if_true, if_false, ite_true, ite_false, ↓reduceIte, and_true, true_and, eq_self, Int.add_zero, Int.reduceAdd]; omega) | (simp (disch := omega) only [sA_same, sA_ne, ud_eq, ud_ne, Int.add_zero, Int.reduceAdd]; omega)) (by first | omega | (simp only [sA_same, sA_s, ud_s, Int.reduceEq, if_true, if_false, ite_true, ite_false, ↓reduceIte, and_true, true_and, eq_self, Int.add_zero, Int.reduceAdd]; omega) | (simp (disch := omega) only [sA_same, sA_ne, ud_eq, ud_ne, Int.add_zero, Int.reduceAdd]; omega)) (by simp (disch := omega) only [sA_same, sA_ne, sA_sA, sA_sr, sB_s, ud_eq, ud_ne, ud_ud, ud_sr, uB_s, Int.add_zero, Int.reduceAdd]; exact hp1) (by simp (disch := omega) only [sA_same, sA_ne, sA_sA, sA_sr, sB_s, ud_eq, ud_ne, ud_ud, ud_sr, uB_s, Int.add_zero, Int.reduceAdd]; exact hI.2.1.1) (by first | omega | (simp only [sA_same, sA_s, ud_s, Int.reduceEq, if_true, if_false, ite_true, ite_false, ↓reduceIte, and_true, true_and, eq_self, Int.add_zero, Int.reduceAdd]; omega) | (simp (disch := omega) only [sA_same, sA_ne, ud_eq, ud_ne, Int.add_zero, Int.reduceAdd]; omega)) (by first | omega | (simp only [sA_same, sA_s, ud_s, Int.reduceEq, if_true, if_false, ite_true, ite_false, ↓reduceIte, and_true, true_and, eq_self, Int.add_zero, Int.reduceAdd]; omega) | (simp (disch := omega) only [sA_same, sA_ne, ud_eq, ud_ne, Int.add_zero, Int.reduceAdd]; omega)) (by simp (disch := omega) only [sA_same, sA_ne, sA_sA, sA_sr, sB_s, ud_eq, ud_ne, ud_ud, ud_sr, uB_s, Int.add_zero, Int.reduceAdd]; exact i5) (JC_fr (fun a ha => by simp (disch := omega) only [sA_ne]) _ _ _ (hJ j (by omega) (by omega)).1) (fun fo fc hfo hfc hfcv => ?_)
      (try simp (disch := omega) only [sA_same, sA_ne, sA_sA, sA_sr, sB_s, ud_eq, ud_ne, ud_ud, ud_sr, uB_s, Int.add_zero, Int.reduceAdd])
      refine v_aload_n (n := 74) xB_90 dX10_uses_73 rfl rfl ?_
      refine v_gf_s (n := 77) (kz := 6) xB_90 dX10_uses_74 xO_90 fl_10_37 fg_10_6 (sh_0 _ _ _) rfl st_0_6 rfl ?_
      refine v_gf_i (n := 80) (kz := 1) xB_90 dX10_uses_77 xO_90 fl_10_189 fg_1_1 rfl (sh_60 _ _ _) rfl rfl ?_
      refine v_ireturn0 xB_90 dX10_uses_80 xK_90 ?_
      first
      | (refine q_eqI (o1 _ (KFr_refl hI)) ?_; unfold UF; rw [if_neg (by omega)]; done)
      | ((try simp (disch := omega) only [sA_same, sA_ne, sA_sA, sA_sr, sB_s, ud_eq, ud_ne, ud_ud, ud_sr, uB_s, Int.add_zero, Int.reduceAdd])
         refine q_eqI (o1 _ (q_K hI hfo hfc rfl)) ?_
         unfold UF TQ
         rw [if_pos (by omega)]
         simp (disch := omega) only [sA_same, sA_ne, sA_sA, sA_sr, sB_s, ud_eq, ud_ne, ud_ud, ud_sr, uB_s, Int.add_zero, Int.reduceAdd, i1, i2]
         try rfl)
    · (try simp (disch := omega) only [sA_same, sA_ne, sA_sA, sA_sr, sB_s, ud_eq, ud_ne, ud_ud, ud_sr, uB_s, Int.add_zero, Int.reduceAdd] at g4)
      refine v_if_ne_n (n := 16) xB_90 dX10_uses_13 (by decide) rfl (by decide) ?_
      refine v_iconst (n := 17) xB_90 dX10_uses_16 ⟨by decide, by decide⟩ rfl ?_
      refine v_ireturn0 xB_90 dX10_uses_17 xK_90 ?_
      first
      | (refine q_eqI (o1 _ (KFr_refl hI)) ?_; unfold UF; rw [if_neg (by omega)]; done)
      | ((try simp (disch := omega) only [sA_same, sA_ne, sA_sA, sA_sr, sB_s, ud_eq, ud_ne, ud_ud, ud_sr, uB_s, Int.add_zero, Int.reduceAdd])
         refine q_eqI (o1 _ (q_K hI hfo hfc rfl)) ?_
         unfold UF TQ
         rw [if_pos (by omega)]
         simp (disch := omega) only [sA_same, sA_ne, sA_sA, sA_sr, sB_s, ud_eq, ud_ne, ud_ud, ud_sr, uB_s, Int.add_zero, Int.reduceAdd, i1, i2]
         try rfl)
  · (try simp (disch := omega) only [sA_same, sA_ne, sA_sA, sA_sr, sB_s, ud_eq, ud_ne, ud_ud, ud_sr, uB_s, Int.add_zero, Int.reduceAdd] at g2)
    refine v_if_eq_y (t := 16) xB_90 dX10_uses_5 (by decide) rfl (by decide) ?_
    refine v_iconst (n := 17) xB_90 dX10_uses_16 ⟨by decide, by decide⟩ rfl ?_
    refine v_ireturn0 xB_90 dX10_uses_17 xK_90 ?_
    first
    | (refine q_eqI (o1 _ (KFr_refl hI)) ?_; unfold UF; rw [if_neg (by omega)]; done)
    | ((try simp (disch := omega) only [sA_same, sA_ne, sA_sA, sA_sr, sB_s, ud_eq, ud_ne, ud_ud, ud_sr, uB_s, Int.add_zero, Int.reduceAdd])
       refine q_eqI (o1 _ (q_K hI hfo hfc rfl)) ?_
       unfold UF TQ
       rw [if_pos (by omega)]
       simp (disch := omega) only [sA_same, sA_ne, sA_sA, sA_sr, sB_s, ud_eq, ud_ne, ud_ud, ud_sr, uB_s, Int.add_zero, Int.reduceAdd, i1, i2]
       try rfl)
