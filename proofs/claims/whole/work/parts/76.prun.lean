/-! A run: the class against the reference. -/
set_option maxHeartbeats 1000000 in
theorem k_run {d : Nat} {m0 : PM} {CF : Int → CLs} {t j : Int} {m : PM} {dy : List (Nat × Nat)} {L : Nat} {Q : Option PV → PS → Prop} (hd : 6 ≤ d) (hI : Inv m0 m dy) (hJ : JF m dy CF) (o1 : (¬ ((0 ≤ t ∧ t < m 81 0) ∧ (0 ≤ j ∧ j < m 81 5))) → Q (some (.inl (-1))) (m, (none, (dy, L)))) (o2 : (((0 ≤ t ∧ t < m 81 0) ∧ (0 ≤ j ∧ j < m 81 5)) ∧ m 84 t = 9999) → Q (some (.inl (-3))) (m, (none, (dy, L)))) (o3 : ∀ m' : PM, (∀ a : Int, a ≠ 3 → a ≠ 60 → a ≠ 61 → a ≠ 17 + 2 * t → m' a = m a) → m' (17 + 2 * t) = ud (m (17 + 2 * t)) 2 (m 84 t + 1) → okc (m' 3) → okc (m' 61) → (∀ s, 0 ≤ s → s < m 81 22 → m' 3 s = RA m CF t (m 83 t) j s) → (((0 ≤ t ∧ t < m 81 0) ∧ (0 ≤ j ∧ j < m 81 5)) ∧ m 84 t ≠ 9999) → Q (some (.inl (PQ m CF (m 81 22) t (m 83 t) j))) (m', (none, (dy, L)))) : C d 84 [.inr (.inr 0), .inl t, .inl j] (m, (none, (dy, L))) Q := by
  refine C_go (k := 5) hd xL_84 (fun d hd => ?_)
  show V d 84 (0, ([some (.inr (.inr 0)), some (.inl t), some (.inl j), none], ([], (m, (none, (dy, L)))))) Q
  obtain ⟨s1, s2, t1, t2, j1, j2⟩ := If hI
  have It0 : 0 ≤ t → t < 5 → _ := fun a b => It hI (t := t) ⟨a, b⟩
  have It1 : 0 ≤ t → t < 5 → m (17 + 2 * t) 2 = m 84 t ∧ (0 ≤ m 84 t ∧ m 84 t ≤ 9999) := fun a b => ⟨(hI.2.2.1.2.2.2 t a b).2.2.1, (hI.2.2.1.2.2.2 t a b).2.2.2.2.2.2.1⟩
  refine v_aload_n (n := 1) xB_84 dX10_run_0 rfl rfl ?_
  refine v_iload_n (n := 2) xB_84 dX10_run_1 rfl rfl ?_
  refine v_call_v (n := 5) xB_84 dX10_run_2 xO_84 iv_10_96 rfl (sh_0 _ _ _) rfl rfl rfl ?_
  refine k_isTray (by omega) (by first | omega | (simp only [sA_same, sA_s, ud_s, Int.reduceEq, if_true, if_false, ite_true, ite_false, ↓reduceIte, and_true, true_and, eq_self, Int.add_zero, Int.reduceAdd]; omega) | (simp (disch := omega) only [sA_same, sA_ne, ud_eq, ud_ne, Int.add_zero, Int.reduceAdd]; omega)) (fun g1 => ?_) (fun g2 => ?_)
  · (try simp (disch := omega) only [sA_same, sA_ne, sA_sA, sA_sr, sB_s, ud_eq, ud_ne, ud_ud, ud_sr, uB_s, Int.add_zero, Int.reduceAdd] at g1)
    refine v_if_eq_n (n := 8) xB_84 dX10_run_5 (by decide) rfl (by decide) ?_
    refine v_aload_n (n := 9) xB_84 dX10_run_8 rfl rfl ?_
    refine v_iload_n (n := 10) xB_84 dX10_run_9 rfl rfl ?_
    refine v_call_v (n := 13) xB_84 dX10_run_10 xO_84 iv_10_162 rfl (sh_0 _ _ _) rfl rfl rfl ?_
    refine k_isJob (by omega) (by first | omega | (simp only [sA_same, sA_s, ud_s, Int.reduceEq, if_true, if_false, ite_true, ite_false, ↓reduceIte, and_true, true_and, eq_self, Int.add_zero, Int.reduceAdd]; omega) | (simp (disch := omega) only [sA_same, sA_ne, ud_eq, ud_ne, Int.add_zero, Int.reduceAdd]; omega)) (fun g3 => ?_) (fun g4 => ?_)
    · (try simp (disch := omega) only [sA_same, sA_ne, sA_sA, sA_sr, sB_s, ud_eq, ud_ne, ud_ud, ud_sr, uB_s, Int.add_zero, Int.reduceAdd] at g3)
      refine v_if_ne_y (t := 18) xB_84 dX10_run_13 (by decide) rfl (by decide) ?_
      obtain ⟨i1, i2, i3, i4, i5, i6⟩ := It0 (by omega) (by omega)
      obtain ⟨i0, i7⟩ := It1 (by omega) (by omega)
      refine v_aload_n (n := 19) xB_84 dX10_run_18 rfl rfl ?_
      refine v_gf_s (n := 22) (kz := 0) xB_84 dX10_run_19 xO_84 fl_10_12 fg_10_0 (sh_0 _ _ _) rfl st_0_0 rfl ?_
      refine v_gf_s (n := 25) (kz := 1) xB_84 dX10_run_22 xO_84 fl_10_86 fg_6_1 (sh_1 _ _ _) rfl st_1_1 rfl ?_
      refine v_iload_n (n := 26) xB_84 dX10_run_25 rfl rfl ?_
      refine v_aald_s (n := 27) (lz := 5) xB_84 dX10_run_26 (sh_4 _ _ _) (by decide) rfl (by first | omega | (simp only [sA_same, sA_s, ud_s, Int.reduceEq, if_true, if_false, ite_true, ite_false, ↓reduceIte, and_true, true_and, eq_self, Int.add_zero, Int.reduceAdd]; omega) | (simp (disch := omega) only [sA_same, sA_ne, ud_eq, ud_ne, Int.add_zero, Int.reduceAdd]; omega)) (st_T (by omega)) rfl ?_
      refine v_astore_n3 (n := 28) xB_84 dX10_run_27 rfl rfl ?_
      refine v_aload_n (n := 29) xB_84 dX10_run_28 rfl rfl ?_
      refine v_gf_i (n := 32) (kz := 2) xB_84 dX10_run_29 xO_84 fl_10_105 fg_9_2 rfl (sh_T (by first | omega | (simp only [sA_same, sA_s, ud_s, Int.reduceEq, if_true, if_false, ite_true, ite_false, ↓reduceIte, and_true, true_and, eq_self, Int.add_zero, Int.reduceAdd]; omega) | (simp (disch := omega) only [sA_same, sA_ne, ud_eq, ud_ne, Int.add_zero, Int.reduceAdd]; omega)) _ _ _) rfl rfl ?_
      refine v_sipush (n := 35) xB_84 dX10_run_32 ⟨by decide, by decide⟩ rfl ?_
      refine v_ic_lt (t := 41) (n := 38) xB_84 dX10_run_35 (by decide) rfl rfl (fun g5 => ?_) (fun g5 => ?_)
      · (try simp (disch := omega) only [sA_same, sA_ne, sA_sA, sA_sr, sB_s, ud_eq, ud_ne, ud_ud, ud_sr, uB_s, Int.add_zero, Int.reduceAdd] at g5)
        refine v_aload_n (n := 42) xB_84 dX10_run_41 rfl rfl ?_
        refine v_gf_s (n := 45) (kz := 6) xB_84 dX10_run_42 xO_84 fl_10_37 fg_10_6 (sh_0 _ _ _) rfl st_0_6 rfl ?_
        refine v_aload_n (n := 46) xB_84 dX10_run_45 rfl rfl ?_
        refine v_gf_s (n := 49) (kz := 0) xB_84 dX10_run_46 xO_84 fl_10_12 fg_10_0 (sh_0 _ _ _) rfl st_0_0 rfl ?_
        refine v_gf_s (n := 52) (kz := 0) xB_84 dX10_run_49 xO_84 fl_10_76 fg_6_0 (sh_1 _ _ _) rfl st_1_0 rfl ?_
        refine v_aload_n (n := 53) xB_84 dX10_run_52 rfl rfl ?_
        refine v_aload_n (n := 54) xB_84 dX10_run_53 rfl rfl ?_
        refine v_gf_i (n := 57) (kz := 1) xB_84 dX10_run_54 xO_84 fl_10_102 fg_9_1 rfl (sh_T (by first | omega | (simp only [sA_same, sA_s, ud_s, Int.reduceEq, if_true, if_false, ite_true, ite_false, ↓reduceIte, and_true, true_and, eq_self, Int.add_zero, Int.reduceAdd]; omega) | (simp (disch := omega) only [sA_same, sA_ne, ud_eq, ud_ne, Int.add_zero, Int.reduceAdd]; omega)) _ _ _) rfl rfl ?_
        refine v_aload_n (n := 58) xB_84 dX10_run_57 rfl rfl ?_
        refine v_gf_s (n := 61) (kz := 4) xB_84 dX10_run_58 xO_84 fl_10_30 fg_10_4 (sh_0 _ _ _) rfl st_0_4 rfl ?_
        refine v_iload_n (n := 62) xB_84 dX10_run_61 rfl rfl ?_
        refine v_aald_d (n := 63) (lz := 6) xB_84 dX10_run_62 (sh_59 _ _ _) (by decide) rfl (by first | omega | (simp only [sA_same, sA_s, ud_s, Int.reduceEq, if_true, if_false, ite_true, ite_false, ↓reduceIte, and_true, true_and, eq_self, Int.add_zero, Int.reduceAdd]; omega) | (simp (disch := omega) only [sA_same, sA_ne, ud_eq, ud_ne, Int.add_zero, Int.reduceAdd]; omega)) (st_59 (by omega)) rfl ?_
        refine v_call_v (n := 66) xB_84 dX10_run_63 xO_84 iv_10_171 rfl (sh_60 _ _ _) rfl rfl rfl ?_
        refine k_copy (by omega) (Or.inl rfl) (by first | omega | (simp only [sA_same, sA_s, ud_s, Int.reduceEq, if_true, if_false, ite_true, ite_false, ↓reduceIte, and_true, true_and, eq_self, Int.add_zero, Int.reduceAdd]; omega) | (simp (disch := omega) only [sA_same, sA_ne, ud_eq, ud_ne, Int.add_zero, Int.reduceAdd]; omega)) (by first | omega | (simp only [sA_same, sA_s, ud_s, Int.reduceEq, if_true, if_false, ite_true, ite_false, ↓reduceIte, and_true, true_and, eq_self, Int.add_zero, Int.reduceAdd]; omega) | (simp (disch := omega) only [sA_same, sA_ne, ud_eq, ud_ne, Int.add_zero, Int.reduceAdd]; omega)) hI.1.2.2.1 hI.2.1.1 (by first | omega | (simp only [sA_same, sA_s, ud_s, Int.reduceEq, if_true, if_false, ite_true, ite_false, ↓reduceIte, and_true, true_and, eq_self, Int.add_zero, Int.reduceAdd]; omega) | (simp (disch := omega) only [sA_same, sA_ne, ud_eq, ud_ne, Int.add_zero, Int.reduceAdd]; omega)) (by first | omega | (simp only [sA_same, sA_s, ud_s, Int.reduceEq, if_true, if_false, ite_true, ite_false, ↓reduceIte, and_true, true_and, eq_self, Int.add_zero, Int.reduceAdd]; omega) | (simp (disch := omega) only [sA_same, sA_ne, ud_eq, ud_ne, Int.add_zero, Int.reduceAdd]; omega)) i5 (hJ j (by omega) (by omega)).1 (fun fo fc hfo hfc hfcv => ?_)
        (try simp (disch := omega) only [sA_same, sA_ne, sA_sA, sA_sr, sB_s, ud_eq, ud_ne, ud_ud, ud_sr, uB_s, Int.add_zero, Int.reduceAdd])
        refine v_aload_n (n := 67) xB_84 dX10_run_66 rfl rfl ?_
        refine v_dup (n := 68) xB_84 dX10_run_67 rfl rfl ?_
        refine v_gf_i (n := 71) (kz := 2) xB_84 dX10_run_68 xO_84 fl_10_105 fg_9_2 rfl (sh_T (by first | omega | (simp only [sA_same, sA_s, ud_s, Int.reduceEq, if_true, if_false, ite_true, ite_false, ↓reduceIte, and_true, true_and, eq_self, Int.add_zero, Int.reduceAdd]; omega) | (simp (disch := omega) only [sA_same, sA_ne, ud_eq, ud_ne, Int.add_zero, Int.reduceAdd]; omega)) _ _ _) rfl rfl ?_
        refine v_iconst (n := 72) xB_84 dX10_run_71 ⟨by decide, by decide⟩ rfl ?_
        refine v_iadd (n := 73) xB_84 dX10_run_72 (by first | omega | (simp only [sA_same, sA_s, ud_s, Int.reduceEq, if_true, if_false, ite_true, ite_false, ↓reduceIte, and_true, true_and, eq_self, Int.add_zero, Int.reduceAdd]; omega) | (simp (disch := omega) only [sA_same, sA_ne, ud_eq, ud_ne, Int.add_zero, Int.reduceAdd]; omega)) rfl ?_
        refine v_pf_i (n := 76) (kz := 2) xB_84 dX10_run_73 xO_84 fl_10_105 fg_9_2 (Or.inl fn_9_2) (sh_T (by first | omega | (simp only [sA_same, sA_s, ud_s, Int.reduceEq, if_true, if_false, ite_true, ite_false, ↓reduceIte, and_true, true_and, eq_self, Int.add_zero, Int.reduceAdd]; omega) | (simp (disch := omega) only [sA_same, sA_ne, ud_eq, ud_ne, Int.add_zero, Int.reduceAdd]; omega)) _ _ _) (by first | omega | (simp only [sA_same, sA_s, ud_s, Int.reduceEq, if_true, if_false, ite_true, ite_false, ↓reduceIte, and_true, true_and, eq_self, Int.add_zero, Int.reduceAdd]; omega) | (simp (disch := omega) only [sA_same, sA_ne, ud_eq, ud_ne, Int.add_zero, Int.reduceAdd]; omega)) rfl rfl ?_
        (try simp (disch := omega) only [sA_same, sA_ne, sA_sA, sA_sr, sB_s, ud_eq, ud_ne, ud_ud, ud_sr, uB_s, Int.add_zero, Int.reduceAdd])
        refine v_aload_n (n := 77) xB_84 dX10_run_76 rfl rfl ?_
        refine v_gf_s (n := 80) (kz := 6) xB_84 dX10_run_77 xO_84 fl_10_37 fg_10_6 (sh_0 _ _ _) rfl st_0_6 rfl ?_
        refine v_gf_i (n := 83) (kz := 2) xB_84 dX10_run_80 xO_84 fl_10_175 fg_1_2 rfl (sh_60 _ _ _) rfl rfl ?_
        refine v_ireturn0 xB_84 dX10_run_83 xK_84 ?_
        first
        | exact o1 (by omega)
        | exact o2 (by omega)
        | (simp (disch := omega) only [sA_same, sA_ne, sA_sA, sA_sr, sB_s, ud_eq, ud_ne, ud_ud, ud_sr, uB_s, Int.add_zero, Int.reduceAdd, s2, i1, i2] at hfcv
           refine q_eqI (o3 _ ?_ ?_ ?_ ?_ ?_ (by omega)) ?_
           · intro a h1 h2 h3 h4; simp (disch := omega) only [sA_ne]
           · simp (disch := omega) only [sA_same, sA_ne, sA_sA, sA_sr, sB_s, ud_eq, ud_ne, ud_ud, ud_sr, uB_s, Int.add_zero, Int.reduceAdd, i0]
           · simp (disch := omega) only [sA_same, sA_ne, sA_sA, sA_sr, sB_s, ud_eq, ud_ne, ud_ud, ud_sr, uB_s, Int.add_zero, Int.reduceAdd]; exact hfc
           · simp (disch := omega) only [sA_same, sA_ne, sA_sA, sA_sr, sB_s, ud_eq, ud_ne, ud_ud, ud_sr, uB_s, Int.add_zero, Int.reduceAdd]; exact hfo
           · intro s a b
             simp (disch := omega) only [sA_same, sA_ne, sA_sA, sA_sr, sB_s, ud_eq, ud_ne, ud_ud, ud_sr, uB_s, Int.add_zero, Int.reduceAdd]
             rw [hfcv s a b]
             unfold RA RQ
             exact cF_congr (fun x a b => by rw [pc_at s1 a b, hI.1.2.2.2.2.2 x a b]) (fun i a b => i6 i a b) a b
           · simp (disch := omega) only [sA_same, sA_ne, sA_sA, sA_sr, sB_s, ud_eq, ud_ne, ud_ud, ud_sr, uB_s, Int.add_zero, Int.reduceAdd, s2, i1, i2]; rfl)
      · (try simp (disch := omega) only [sA_same, sA_ne, sA_sA, sA_sr, sB_s, ud_eq, ud_ne, ud_ud, ud_sr, uB_s, Int.add_zero, Int.reduceAdd] at g5)
        refine v_bipush (n := 40) xB_84 dX10_run_38 ⟨by decide, by decide⟩ rfl ?_
        refine v_ireturn0 xB_84 dX10_run_40 xK_84 ?_
        first
        | exact o1 (by omega)
        | exact o2 (by omega)
        | (simp (disch := omega) only [sA_same, sA_ne, sA_sA, sA_sr, sB_s, ud_eq, ud_ne, ud_ud, ud_sr, uB_s, Int.add_zero, Int.reduceAdd, s2, i1, i2] at hfcv
           refine q_eqI (o3 _ ?_ ?_ ?_ ?_ ?_ (by omega)) ?_
           · intro a h1 h2 h3 h4; simp (disch := omega) only [sA_ne]
           · simp (disch := omega) only [sA_same, sA_ne, sA_sA, sA_sr, sB_s, ud_eq, ud_ne, ud_ud, ud_sr, uB_s, Int.add_zero, Int.reduceAdd, i0]
           · simp (disch := omega) only [sA_same, sA_ne, sA_sA, sA_sr, sB_s, ud_eq, ud_ne, ud_ud, ud_sr, uB_s, Int.add_zero, Int.reduceAdd]; exact hfc
           · simp (disch := omega) only [sA_same, sA_ne, sA_sA, sA_sr, sB_s, ud_eq, ud_ne, ud_ud, ud_sr, uB_s, Int.add_zero, Int.reduceAdd]; exact hfo
           · intro s a b
             simp (disch := omega) only [sA_same, sA_ne, sA_sA, sA_sr, sB_s, ud_eq, ud_ne, ud_ud, ud_sr, uB_s, Int.add_zero, Int.reduceAdd]
             rw [hfcv s a b]
             unfold RA RQ
             exact cF_congr (fun x a b => by rw [pc_at s1 a b, hI.1.2.2.2.2.2 x a b]) (fun i a b => i6 i a b) a b
           · simp (disch := omega) only [sA_same, sA_ne, sA_sA, sA_sr, sB_s, ud_eq, ud_ne, ud_ud, ud_sr, uB_s, Int.add_zero, Int.reduceAdd, s2, i1, i2]; rfl)
    · (try simp (disch := omega) only [sA_same, sA_ne, sA_sA, sA_sr, sB_s, ud_eq, ud_ne, ud_ud, ud_sr, uB_s, Int.add_zero, Int.reduceAdd] at g4)
      refine v_if_ne_n (n := 16) xB_84 dX10_run_13 (by decide) rfl (by decide) ?_
      refine v_iconst (n := 17) xB_84 dX10_run_16 ⟨by decide, by decide⟩ rfl ?_
      refine v_ireturn0 xB_84 dX10_run_17 xK_84 ?_
      first
      | exact o1 (by omega)
      | exact o2 (by omega)
      | (simp (disch := omega) only [sA_same, sA_ne, sA_sA, sA_sr, sB_s, ud_eq, ud_ne, ud_ud, ud_sr, uB_s, Int.add_zero, Int.reduceAdd, s2, i1, i2] at hfcv
         refine q_eqI (o3 _ ?_ ?_ ?_ ?_ ?_ (by omega)) ?_
         · intro a h1 h2 h3 h4; simp (disch := omega) only [sA_ne]
         · simp (disch := omega) only [sA_same, sA_ne, sA_sA, sA_sr, sB_s, ud_eq, ud_ne, ud_ud, ud_sr, uB_s, Int.add_zero, Int.reduceAdd, i0]
         · simp (disch := omega) only [sA_same, sA_ne, sA_sA, sA_sr, sB_s, ud_eq, ud_ne, ud_ud, ud_sr, uB_s, Int.add_zero, Int.reduceAdd]; exact hfc
         · simp (disch := omega) only [sA_same, sA_ne, sA_sA, sA_sr, sB_s, ud_eq, ud_ne, ud_ud, ud_sr, uB_s, Int.add_zero, Int.reduceAdd]; exact hfo
         · intro s a b
           simp (disch := omega) only [sA_same, sA_ne, sA_sA, sA_sr, sB_s, ud_eq, ud_ne, ud_ud, ud_sr, uB_s, Int.add_zero, Int.reduceAdd]
           rw [hfcv s a b]
           unfold RA RQ
           exact cF_congr (fun x a b => by rw [pc_at s1 a b, hI.1.2.2.2.2.2 x a b]) (fun i a b => i6 i a b) a b
         · simp (disch := omega) only [sA_same, sA_ne, sA_sA, sA_sr, sB_s, ud_eq, ud_ne, ud_ud, ud_sr, uB_s, Int.add_zero, Int.reduceAdd, s2, i1, i2]; rfl)
  · (try simp (disch := omega) only [sA_same, sA_ne, sA_sA, sA_sr, sB_s, ud_eq, ud_ne, ud_ud, ud_sr, uB_s, Int.add_zero, Int.reduceAdd] at g2)
    refine v_if_eq_y (t := 16) xB_84 dX10_run_5 (by decide) rfl (by decide) ?_
    refine v_iconst (n := 17) xB_84 dX10_run_16 ⟨by decide, by decide⟩ rfl ?_
    refine v_ireturn0 xB_84 dX10_run_17 xK_84 ?_
    first
    | exact o1 (by omega)
    | exact o2 (by omega)
    | (simp (disch := omega) only [sA_same, sA_ne, sA_sA, sA_sr, sB_s, ud_eq, ud_ne, ud_ud, ud_sr, uB_s, Int.add_zero, Int.reduceAdd, s2, i1, i2] at hfcv
       refine q_eqI (o3 _ ?_ ?_ ?_ ?_ ?_ (by omega)) ?_
       · intro a h1 h2 h3 h4; simp (disch := omega) only [sA_ne]
       · simp (disch := omega) only [sA_same, sA_ne, sA_sA, sA_sr, sB_s, ud_eq, ud_ne, ud_ud, ud_sr, uB_s, Int.add_zero, Int.reduceAdd, i0]
       · simp (disch := omega) only [sA_same, sA_ne, sA_sA, sA_sr, sB_s, ud_eq, ud_ne, ud_ud, ud_sr, uB_s, Int.add_zero, Int.reduceAdd]; exact hfc
       · simp (disch := omega) only [sA_same, sA_ne, sA_sA, sA_sr, sB_s, ud_eq, ud_ne, ud_ud, ud_sr, uB_s, Int.add_zero, Int.reduceAdd]; exact hfo
       · intro s a b
         simp (disch := omega) only [sA_same, sA_ne, sA_sA, sA_sr, sB_s, ud_eq, ud_ne, ud_ud, ud_sr, uB_s, Int.add_zero, Int.reduceAdd]
         rw [hfcv s a b]
         unfold RA RQ
         exact cF_congr (fun x a b => by rw [pc_at s1 a b, hI.1.2.2.2.2.2 x a b]) (fun i a b => i6 i a b) a b
       · simp (disch := omega) only [sA_same, sA_ne, sA_sA, sA_sr, sB_s, ud_eq, ud_ne, ud_ud, ud_sr, uB_s, Int.add_zero, Int.reduceAdd, s2, i1, i2]; rfl)
theorem RI_eq {m m' : PM} {CF : Int → CLs} (h : ∀ a : Int, 81 ≤ a → m' a = m a) (hR : RI m CF) : RI m' CF := by
  obtain ⟨a1, a2, a3, a4, a5, a6, a7, a8⟩ := hR
  unfold RI
  rw [h 81 (by omega), h 82 (by omega), h 83 (by omega), h 85 (by omega), h 96 (by omega), h 97 (by omega), h 98 (by omega), h 99 (by omega), h 100 (by omega), h 101 (by omega), h 102 (by omega), h 103 (by omega), h 104 (by omega)]
  exact ⟨a1, a2, a3, a4, a5, a6, a7, fun j p q => JR_s (fun a b c => h a (by omega)) (a8 j p q)⟩
theorem TrR_ran {m m2 : PM} {t : Int} (h : TrR m) (ht : 0 ≤ t ∧ t < m 81 0) (h9 : m 84 t ≠ 9999) (e0 : m2 81 0 = m 81 0) (e2 : m2 1 2 = m 1 2) (f82 : m2 82 = m 82) (f83 : m2 83 = m 83) (f85 : m2 85 = m 85) (f84 : m2 84 = ud (m 84) t (m 84 t + 1)) (f17 : m2 (17 + 2 * t) = ud (m (17 + 2 * t)) 2 (m 84 t + 1)) (fo : ∀ u, 0 ≤ u → u < 5 → u ≠ t → m2 (17 + 2 * u) = m (17 + 2 * u)) (fp : ∀ u, 0 ≤ u → u < 5 → m2 (18 + 2 * u) = m (18 + 2 * u)) : TrR m2 := by
  unfold TrR at *
  obtain ⟨a1, a2, a3, a4⟩ := h
  rw [e0, e2, f82, f83, f85, f84]
  refine ⟨a1, a2, a3, fun u h1 h2 => ?_⟩
  obtain ⟨b1, b2, b3, b4, b5, b6, b7, b8⟩ := a4 u h1 h2
  rw [fp u h1 h2]
  by_cases hu : u = t
  · subst hu
    rw [f17, ud_eq, ud_eq, ud_ne (by omega), ud_ne (by omega)]
    exact ⟨b1, b2, rfl, b4, b5, b6, by omega, b8⟩
  · rw [fo u h1 h2 hu, ud_ne hu]
    exact ⟨b1, b2, b3, b4, b5, b6, b7, b8⟩
set_option maxHeartbeats 2000000 in
theorem p_run (m0 : PM) (L : Nat) (t j : Int) : PairI m0 L 84 169 [.inr (.inr 0), .inl t, .inl j] [.inr (.inr 81), .inl t, .inl j] := by
  intro m dy h D W hD hW
  obtain ⟨CF, hJ⟩ := JF_of h.2.2.2.2.2.2.2.2.2.2.2.1
  have hI := h
  have hR0 := RI_of hI hJ
  obtain ⟨hSt, hSc, hTr, hSe, hPl, hBo, hIm, hHm, hTx, hAc, hTp, hJb, hCo⟩ := h
  obtain ⟨s1, s2, t1, t2, j1, j2⟩ := If hI
  refine k_run (by omega) hI hJ (fun gg => ?_) (fun gg => ?_) (fun m1 hf e17 ho3 ho61 hv gg => ?_)
  · have hR1 := hR0
    refine hW _ _ _ (fun D2 W2 hD2 hW2 => ?_)
    refine c_run (CL := CF j) (by omega) hR1.2.1 hR1.2.2.1 (fun a b => hR1.2.2.2.2.2.2.2 j a b) hR1.1 (fun a b => ⟨(hR1.2.2.2.2.2.1 t a b).1, (hR1.2.2.2.2.2.1 t a b).2, (hTr.2.2.2 t a b).2.2.2.2.2.2.1⟩) hR1.2.2.2.2.1 hR1.2.2.2.1.1 hR1.2.2.2.1.2.1 hR1.2.2.2.1.2.2.2.2.1 hR1.2.2.2.1.2.2.1 hR1.2.2.2.1.2.2.2.2.2.1 hR1.2.2.2.1.2.2.2.1 (fun g2 => hW2 _ hI) (fun g2 => absurd g2.1 gg) (fun _ _ _ _ _ _ _ _ _ _ _ _ _ _ g2 => absurd g2.1 gg)
  · have hR1 := hR0
    refine hW _ _ _ (fun D2 W2 hD2 hW2 => ?_)
    refine c_run (CL := CF j) (by omega) hR1.2.1 hR1.2.2.1 (fun a b => hR1.2.2.2.2.2.2.2 j a b) hR1.1 (fun a b => ⟨(hR1.2.2.2.2.2.1 t a b).1, (hR1.2.2.2.2.2.1 t a b).2, (hTr.2.2.2 t a b).2.2.2.2.2.2.1⟩) hR1.2.2.2.2.1 hR1.2.2.2.1.1 hR1.2.2.2.1.2.1 hR1.2.2.2.1.2.2.2.2.1 hR1.2.2.2.1.2.2.1 hR1.2.2.2.1.2.2.2.2.2.1 hR1.2.2.2.1.2.2.2.1 (fun g2 => absurd gg.1 g2) (fun g2 => hW2 _ hI) (fun _ _ _ _ _ _ _ _ _ _ _ _ _ _ g2 => absurd gg.2 g2.2)
  · have hR1 : RI m1 CF := RI_eq (fun a ha => hf a (by omega) (by omega) (by omega) (by omega)) hR0
    have e81 : m1 81 = m 81 := hf 81 (by omega) (by omega) (by omega) (by omega)
    have e82 : m1 82 = m 82 := hf 82 (by omega) (by omega) (by omega) (by omega)
    have e83 : m1 83 = m 83 := hf 83 (by omega) (by omega) (by omega) (by omega)
    have e84 : m1 84 = m 84 := hf 84 (by omega) (by omega) (by omega) (by omega)
    have e85 : m1 85 = m 85 := hf 85 (by omega) (by omega) (by omega) (by omega)
    have e96 : m1 96 = m 96 := hf 96 (by omega) (by omega) (by omega) (by omega)
    have e99 : m1 99 = m 99 := hf 99 (by omega) (by omega) (by omega) (by omega)
    have e22 : m1 81 22 = m 81 22 := by rw [e81]
    refine hW _ _ _ (fun D2 W2 hD2 hW2 => ?_)
    refine c_run (CL := CF j) (by omega) hR1.2.1 hR1.2.2.1 (fun a b => hR1.2.2.2.2.2.2.2 j a b) hR1.1 (fun a b => ⟨(hR1.2.2.2.2.2.1 t a b).1, (hR1.2.2.2.2.2.1 t a b).2, (by rw [e84]; exact (hTr.2.2.2 t a b).2.2.2.2.2.2.1)⟩) hR1.2.2.2.2.1 hR1.2.2.2.1.1 hR1.2.2.2.1.2.1 hR1.2.2.2.1.2.2.2.2.1 hR1.2.2.2.1.2.2.1 hR1.2.2.2.1.2.2.2.2.2.1 hR1.2.2.2.1.2.2.2.1 (fun g2 => absurd gg.1 (by rw [e81] at g2; exact g2)) (fun g2 => absurd (by rw [e84] at g2; exact g2.2) gg.2) (fun f95 sd od ns dn on nd c1 c2 c3 c4 c5 c6 c7 g2 => ?_)
    rw [e82, e83, e85, e81, e96, e99] at c7
    have c8 : ∀ s, 0 ≤ s → s < m 81 22 → RA m CF t (m 83 t) j s = pkA sd dn s := fun s a b => by
      rw [c7 s a b]; unfold RA RQ; exact cF_congr (fun x a b => pc_at s1 a b) (fun _ _ _ => rfl) a b
    refine q_eqI (Q := W2) (hW2 _ ?_) (by rw [e82, e83, e81]; rfl)
    exact ⟨(StR_new (N := m 81 22) (f := m1 3) (sd := sd) (dn := dn) s1 ho3 c1 c4 (fun s a b => by rw [hv s a b, c8 s a b]) (by simp (disch := omega) only [sA_ne, sA_same, ud_ne]; exact e22) (by simp (disch := omega) only [sA_ne]; rw [hf 2 (by omega) (by omega) (by omega) (by omega)]; exact s2) (by simp (disch := omega) only [sA_ne, sA_same]; skip) (by simp (disch := omega) only [sA_ne, sA_same]; skip) (by simp (disch := omega) only [sA_ne, sA_same]; skip)), (by unfold ScR; simp (disch := omega) only [sA_ne, sA_same]; rw [hf 63 (by omega) (by omega) (by omega) (by omega), hf 65 (by omega) (by omega) (by omega) (by omega), hf 102 (by omega) (by omega) (by omega) (by omega), hf 103 (by omega) (by omega) (by omega) (by omega)]; exact ⟨ho61, hSc.2.1, hSc.2.2.1, c5, c6, c2, c3, hSc.2.2.2.2.2.2.2.1, hSc.2.2.2.2.2.2.2.2⟩), (TrR_ran (t := t) hTr gg.1.1 gg.2 (by simp (disch := omega) only [sA_ne, sA_same, ud_ne]; rw [hf 81 (by omega) (by omega) (by omega) (by omega)]) (by simp (disch := omega) only [sA_ne]; rw [hf 1 (by omega) (by omega) (by omega) (by omega)]) (by simp (disch := omega) only [sA_ne, sA_same]; exact hf _ (by omega) (by omega) (by omega) (by omega)) (by simp (disch := omega) only [sA_ne, sA_same]; exact hf _ (by omega) (by omega) (by omega) (by omega)) (by simp (disch := omega) only [sA_ne, sA_same]; exact hf _ (by omega) (by omega) (by omega) (by omega)) (by simp (disch := omega) only [sA_ne, sA_same]; rw [hf 84 (by omega) (by omega) (by omega) (by omega)]) (by simp (disch := omega) only [sA_ne]; exact e17) (fun u a b c => (by simp (disch := omega) only [sA_ne]; exact hf _ (by omega) (by omega) (by omega) (by omega))) (fun u a b => (by simp (disch := omega) only [sA_ne]; exact hf _ (by omega) (by omega) (by omega) (by omega)))), (SeR_fr (fun a q1 q2 => by simp (disch := omega) only [sA_ne]; exact hf a (by omega) (by omega) (by omega) (by omega)) (fun a q1 q2 => by simp (disch := omega) only [sA_ne]; exact hf a (by omega) (by omega) (by omega) (by omega)) (by simp (disch := omega) only [sA_ne, sA_same, ud_ne]; rw [hf _ (by omega) (by omega) (by omega) (by omega)])  hSe), (PlR_fr (fun a q1 q2 => by simp (disch := omega) only [sA_ne]; exact hf a (by omega) (by omega) (by omega) (by omega)) (fun a q1 q2 => by simp (disch := omega) only [sA_ne]; exact hf a (by omega) (by omega) (by omega) (by omega)) (by simp (disch := omega) only [sA_ne, sA_same, ud_ne]; rw [hf _ (by omega) (by omega) (by omega) (by omega)]) (by simp (disch := omega) only [sA_ne, sA_same, ud_ne]; rw [hf _ (by omega) (by omega) (by omega) (by omega)]) (by simp (disch := omega) only [sA_ne, sA_same, ud_ne]; rw [hf _ (by omega) (by omega) (by omega) (by omega)])  hPl), (BoR_fr (fun a q1 q2 => by simp (disch := omega) only [sA_ne]; exact hf a (by omega) (by omega) (by omega) (by omega)) (fun a q1 q2 => by simp (disch := omega) only [sA_ne]; exact hf a (by omega) (by omega) (by omega) (by omega)) (by simp (disch := omega) only [sA_ne, sA_same, ud_ne]; rw [hf _ (by omega) (by omega) (by omega) (by omega)])  hBo), (fun q => have qq := hIm (Eq.trans (Eq.symm (by simp (disch := omega) only [sA_ne, sA_same, ud_ne]; rw [hf _ (by omega) (by omega) (by omega) (by omega)])) q); ⟨(ImS_fr (fun a q1 q2 => by simp (disch := omega) only [sA_ne]; exact hf a (by omega) (by omega) (by omega) (by omega)) (fun a q1 q2 => by simp (disch := omega) only [sA_ne]; exact hf a (by omega) (by omega) (by omega) (by omega)) (fun a q1 q2 => by simp (disch := omega) only [sA_ne]; exact hf a (by omega) (by omega) (by omega) (by omega)) (by simp (disch := omega) only [sA_ne, sA_same, ud_ne]; rw [hf _ (by omega) (by omega) (by omega) (by omega)])  qq.1), (ImT_fr (fun a q1 q2 => by simp (disch := omega) only [sA_ne]; exact hf a (by omega) (by omega) (by omega) (by omega)) (fun a q1 q2 => by simp (disch := omega) only [sA_ne]; exact hf a (by omega) (by omega) (by omega) (by omega)) (by simp (disch := omega) only [sA_ne, sA_same, ud_ne]; rw [hf _ (by omega) (by omega) (by omega) (by omega)]) (by simp (disch := omega) only [sA_ne, sA_same, ud_ne]; rw [hf _ (by omega) (by omega) (by omega) (by omega)]) qq.2.1), (ImN_fr (fun a q1 q2 => by simp (disch := omega) only [sA_ne]; exact hf a (by omega) (by omega) (by omega) (by omega)) (fun a q1 q2 => by simp (disch := omega) only [sA_ne]; exact hf a (by omega) (by omega) (by omega) (by omega)) (by simp (disch := omega) only [sA_ne, sA_same, ud_ne]; rw [hf _ (by omega) (by omega) (by omega) (by omega)])  qq.2.2.1), (ImP_fr (fun a q1 q2 => by simp (disch := omega) only [sA_ne]; exact hf a (by omega) (by omega) (by omega) (by omega)) (fun a q1 q2 => by simp (disch := omega) only [sA_ne]; exact hf a (by omega) (by omega) (by omega) (by omega)) (by simp (disch := omega) only [sA_ne, sA_same, ud_ne]; rw [hf _ (by omega) (by omega) (by omega) (by omega)]) (by simp (disch := omega) only [sA_ne, sA_same, ud_ne]; rw [hf _ (by omega) (by omega) (by omega) (by omega)]) (by simp (disch := omega) only [sA_ne, sA_same, ud_ne]; rw [hf _ (by omega) (by omega) (by omega) (by omega)])  qq.2.2.2.1), (ImB_fr (fun a q1 q2 => by simp (disch := omega) only [sA_ne]; exact hf a (by omega) (by omega) (by omega) (by omega)) (fun a q1 q2 => by simp (disch := omega) only [sA_ne]; exact hf a (by omega) (by omega) (by omega) (by omega)) (by simp (disch := omega) only [sA_ne, sA_same, ud_ne]; rw [hf _ (by omega) (by omega) (by omega) (by omega)])  qq.2.2.2.2)⟩), (HmR_fr  (by simp (disch := omega) only [sA_ne, sA_same, ud_ne]; rw [hf _ (by omega) (by omega) (by omega) (by omega)]) (by simp (disch := omega) only [sA_ne, sA_same, ud_ne]; rw [hf _ (by omega) (by omega) (by omega) (by omega)]) hHm), (TxR_fr (fun a q1 q2 => by simp (disch := omega) only [sA_ne]; exact hf a (by omega) (by omega) (by omega) (by omega)) (fun a q1 q2 => by simp (disch := omega) only [sA_ne]; exact hf a (by omega) (by omega) (by omega) (by omega)) (by simp (disch := omega) only [sA_ne, sA_same, ud_ne]; rw [hf _ (by omega) (by omega) (by omega) (by omega)]) (by simp (disch := omega) only [sA_ne, sA_same, ud_ne]; rw [hf _ (by omega) (by omega) (by omega) (by omega)]) hTx), (AcR_fr (fun a q1 q2 => by simp (disch := omega) only [sA_ne]; exact hf a (by omega) (by omega) (by omega) (by omega)) (fun a q1 q2 => by simp (disch := omega) only [sA_ne]; exact hf a (by omega) (by omega) (by omega) (by omega)) (by simp (disch := omega) only [sA_ne, sA_same, ud_ne]; rw [hf _ (by omega) (by omega) (by omega) (by omega)]) (by simp (disch := omega) only [sA_ne, sA_same, ud_ne]; rw [hf _ (by omega) (by omega) (by omega) (by omega)]) hAc), (TpR_fr (fun a q1 q2 => by simp (disch := omega) only [sA_ne]; exact hf a (by omega) (by omega) (by omega) (by omega)) (fun a q1 q2 => by simp (disch := omega) only [sA_ne]; exact hf a (by omega) (by omega) (by omega) (by omega))   hTp), (JbR_fr (fun a q1 => by simp (disch := omega) only [sA_ne]; exact hf a (by omega) (by omega) (by omega) (by omega)) (fun a q1 q2 => by simp (disch := omega) only [sA_ne]; exact hf a (by omega) (by omega) (by omega) (by omega)) (by simp (disch := omega) only [sA_ne, sA_same, ud_ne]; rw [hf _ (by omega) (by omega) (by omega) (by omega)]) (by simp (disch := omega) only [sA_ne, sA_same, ud_ne]; rw [hf _ (by omega) (by omega) (by omega) (by omega)]) (by simp (disch := omega) only [sA_ne, sA_same, ud_ne]; rw [hf _ (by omega) (by omega) (by omega) (by omega)]) hJb), (CoR_fr (fun a q1 => by simp (disch := omega) only [sA_ne]; exact hf a (by omega) (by omega) (by omega) (by omega)) (by simp (disch := omega) only [sA_ne, sA_same, ud_ne]; rw [hf _ (by omega) (by omega) (by omega) (by omega)]) hCo)⟩
