/-! A run: the reference, as it is called. -/
set_option maxHeartbeats 1000000 in
theorem c_run {d : Nat} {t j : Int} {CL : CLs} {m : PM} {dy : List (Nat × Nat)} {L : Nat} {Q : Option PV → PS → Prop} (hd : 6 ≤ d) (hT : 0 ≤ m 81 0 ∧ m 81 0 ≤ 5) (hJ5 : 0 ≤ m 81 5 ∧ m 81 5 ≤ 6) (hJ : 0 ≤ j → j < m 81 5 → JR m j CL) (hN : 0 ≤ m 81 22 ∧ m 81 22 ≤ 12) (hk : 0 ≤ t → t < 5 → (0 ≤ m 82 t ∧ m 82 t ≤ 6) ∧ (0 ≤ m 83 t ∧ m 83 t ≤ 9) ∧ (0 ≤ m 84 t ∧ m 84 t ≤ 9999)) (hr : r9 (m 85)) (hb : bl (m 99)) (hp : pgs (m 96)) (hob : bl (m 100)) (hop : pgs (m 97)) (hnb : bl (m 101)) (hnp : pgs (m 98)) (o1 : (¬ ((0 ≤ t ∧ t < m 81 0) ∧ (0 ≤ j ∧ j < m 81 5))) → Q (some (.inl (-1))) (m, (none, (dy, L)))) (o2 : (((0 ≤ t ∧ t < m 81 0) ∧ (0 ≤ j ∧ j < m 81 5)) ∧ m 84 t = 9999) → Q (some (.inl (-3))) (m, (none, (dy, L)))) (o3 : ∀ f95 sd od ns dn on nd : Int → Int, bl dn → bl on → bl nd → pgs sd → pgs od → pgs ns → (∀ s, 0 ≤ s → s < m 81 22 → pkA sd dn s = cF (m 82 t) (m 83 t) (fun x => m 85 (4 * t + x)) CL (m 81 22) (pkA (m 96) (m 99)) s) → (((0 ≤ t ∧ t < m 81 0) ∧ (0 ≤ j ∧ j < m 81 5)) ∧ m 84 t ≠ 9999) → Q (some (.inl (prF (m 82 t) (m 83 t) (TF (m 82 t) (m 83 t) CL (m 81 22))))) (setA (setA (setA (setA (setA (setA (setA (setA (setA (m) 81 (ud (ud (m 81) 29 (TF (m 82 t) (m 83 t) CL (m 81 22))) 30 (prF (m 82 t) (m 83 t) (TF (m 82 t) (m 83 t) CL (m 81 22))))) 84 (ud (m 84) t (m 84 t + 1))) 95 (f95)) 96 (sd)) 97 (od)) 98 (ns)) 99 (dn)) 100 (on)) 101 (nd), (none, (dy, L)))) : C d 169 [.inr (.inr 81), .inl t, .inl j] (m, (none, (dy, L))) Q := by
  refine C_go (k := 5) hd xL_169 (fun d hd => ?_)
  show V d 169 (0, ([some (.inr (.inr 81)), some (.inl t), some (.inl j)], ([], (m, (none, (dy, L)))))) Q
  refine v_aload_n (n := 1) xB_169 dX11_run_0 rfl rfl ?_
  refine v_iload_n (n := 2) xB_169 dX11_run_1 rfl rfl ?_
  refine v_call_v (n := 5) xB_169 dX11_run_2 xO_169 iv_11_225 rfl (sh_81 _ _ _) rfl rfl rfl ?_
  refine c_isTray (by omega) (by first | omega | (simp only [sA_same, sA_s, ud_s, Int.reduceEq, if_true, if_false, ite_true, ite_false, ↓reduceIte, and_true, true_and, eq_self, Int.add_zero, Int.reduceAdd]; omega) | (simp (disch := omega) only [sA_same, sA_ne, ud_eq, ud_ne, Int.add_zero, Int.reduceAdd]; omega)) (fun g1 => ?_) (fun g2 => ?_)
  · (try simp (disch := omega) only [sA_same, sA_ne, sA_sA, sA_sr, sB_s, ud_eq, ud_ne, ud_ud, ud_sr, uB_s, Int.add_zero, Int.reduceAdd] at g1)
    refine v_if_eq_n (n := 8) xB_169 dX11_run_5 (by decide) rfl (by decide) ?_
    refine v_aload_n (n := 9) xB_169 dX11_run_8 rfl rfl ?_
    refine v_iload_n (n := 10) xB_169 dX11_run_9 rfl rfl ?_
    refine v_call_v (n := 13) xB_169 dX11_run_10 xO_169 iv_11_283 rfl (sh_81 _ _ _) rfl rfl rfl ?_
    refine c_isJob (by omega) (by first | omega | (simp only [sA_same, sA_s, ud_s, Int.reduceEq, if_true, if_false, ite_true, ite_false, ↓reduceIte, and_true, true_and, eq_self, Int.add_zero, Int.reduceAdd]; omega) | (simp (disch := omega) only [sA_same, sA_ne, ud_eq, ud_ne, Int.add_zero, Int.reduceAdd]; omega)) (fun g3 => ?_) (fun g4 => ?_)
    · (try simp (disch := omega) only [sA_same, sA_ne, sA_sA, sA_sr, sB_s, ud_eq, ud_ne, ud_ud, ud_sr, uB_s, Int.add_zero, Int.reduceAdd] at g3)
      refine v_if_ne_y (t := 18) xB_169 dX11_run_13 (by decide) rfl (by decide) ?_
      refine v_aload_n (n := 19) xB_169 dX11_run_18 rfl rfl ?_
      refine v_gf_s (n := 22) (kz := 3) xB_169 dX11_run_19 xO_169 fl_11_20 fg_11_3 (sh_81 _ _ _) rfl st_81_3 rfl ?_
      refine v_iload_n (n := 23) xB_169 dX11_run_22 rfl rfl ?_
      refine v_iaload (n := 24) (lz := 5) xB_169 dX11_run_23 (sh_84 _ _ _) rfl (by first | omega | (simp only [sA_same, sA_s, ud_s, Int.reduceEq, if_true, if_false, ite_true, ite_false, ↓reduceIte, and_true, true_and, eq_self, Int.add_zero, Int.reduceAdd]; omega) | (simp (disch := omega) only [sA_same, sA_ne, ud_eq, ud_ne, Int.add_zero, Int.reduceAdd]; omega)) rfl ?_
      refine v_sipush (n := 27) xB_169 dX11_run_24 ⟨by decide, by decide⟩ rfl ?_
      refine v_ic_ne (t := 33) (n := 30) xB_169 dX11_run_27 (by decide) rfl rfl (fun g5 => ?_) (fun g5 => ?_)
      · (try simp (disch := omega) only [sA_same, sA_ne, sA_sA, sA_sr, sB_s, ud_eq, ud_ne, ud_ud, ud_sr, uB_s, Int.add_zero, Int.reduceAdd] at g5)
        refine v_aload_n (n := 34) xB_169 dX11_run_33 rfl rfl ?_
        refine v_iload_n (n := 35) xB_169 dX11_run_34 rfl rfl ?_
        refine v_iload_n (n := 36) xB_169 dX11_run_35 rfl rfl ?_
        refine v_call_v (n := 39) xB_169 dX11_run_36 xO_169 iv_11_346 rfl (sh_81 _ _ _) rfl rfl rfl ?_
        refine c_goRun (by omega) (by first | omega | (simp only [sA_same, sA_s, ud_s, Int.reduceEq, if_true, if_false, ite_true, ite_false, ↓reduceIte, and_true, true_and, eq_self, Int.add_zero, Int.reduceAdd]; omega) | (simp (disch := omega) only [sA_same, sA_ne, ud_eq, ud_ne, Int.add_zero, Int.reduceAdd]; omega)) (hJ (by omega) (by omega)) (by first | omega | (simp only [sA_same, sA_s, ud_s, Int.reduceEq, if_true, if_false, ite_true, ite_false, ↓reduceIte, and_true, true_and, eq_self, Int.add_zero, Int.reduceAdd]; omega) | (simp (disch := omega) only [sA_same, sA_ne, ud_eq, ud_ne, Int.add_zero, Int.reduceAdd]; omega)) (by first | omega | (simp only [sA_same, sA_s, ud_s, Int.reduceEq, if_true, if_false, ite_true, ite_false, ↓reduceIte, and_true, true_and, eq_self, Int.add_zero, Int.reduceAdd]; omega) | (simp (disch := omega) only [sA_same, sA_ne, ud_eq, ud_ne, Int.add_zero, Int.reduceAdd]; omega)) (by first | omega | (simp only [sA_same, sA_s, ud_s, Int.reduceEq, if_true, if_false, ite_true, ite_false, ↓reduceIte, and_true, true_and, eq_self, Int.add_zero, Int.reduceAdd]; omega) | (simp (disch := omega) only [sA_same, sA_ne, ud_eq, ud_ne, Int.add_zero, Int.reduceAdd]; omega)) (by first | omega | (simp only [sA_same, sA_s, ud_s, Int.reduceEq, if_true, if_false, ite_true, ite_false, ↓reduceIte, and_true, true_and, eq_self, Int.add_zero, Int.reduceAdd]; omega) | (simp (disch := omega) only [sA_same, sA_ne, ud_eq, ud_ne, Int.add_zero, Int.reduceAdd]; omega)) hr hb hp hob hop hnb hnp (fun f95 sd od ns dn on nd c1 c2 c3 c4 c5 c6 c7 => ?_)
        (try simp (disch := omega) only [sA_same, sA_ne, sA_sA, sA_sr, sB_s, ud_eq, ud_ne, ud_ud, ud_sr, uB_s, Int.add_zero, Int.reduceAdd])
        refine v_aload_n (n := 40) xB_169 dX11_run_39 rfl rfl ?_
        refine v_gf_s (n := 43) (kz := 3) xB_169 dX11_run_40 xO_169 fl_11_20 fg_11_3 (sh_81 _ _ _) rfl st_81_3 rfl ?_
        refine v_iload_n (n := 44) xB_169 dX11_run_43 rfl rfl ?_
        refine v_dup2 (n := 45) xB_169 dX11_run_44 rfl rfl rfl ?_
        refine v_iaload (n := 46) (lz := 5) xB_169 dX11_run_45 (sh_84 _ _ _) rfl (by first | omega | (simp only [sA_same, sA_s, ud_s, Int.reduceEq, if_true, if_false, ite_true, ite_false, ↓reduceIte, and_true, true_and, eq_self, Int.add_zero, Int.reduceAdd]; omega) | (simp (disch := omega) only [sA_same, sA_ne, ud_eq, ud_ne, Int.add_zero, Int.reduceAdd]; omega)) rfl ?_
        refine v_iconst (n := 47) xB_169 dX11_run_46 ⟨by decide, by decide⟩ rfl ?_
        refine v_iadd (n := 48) xB_169 dX11_run_47 (by first | omega | (simp only [sA_same, sA_s, ud_s, Int.reduceEq, if_true, if_false, ite_true, ite_false, ↓reduceIte, and_true, true_and, eq_self, Int.add_zero, Int.reduceAdd]; omega) | (simp (disch := omega) only [sA_same, sA_ne, ud_eq, ud_ne, Int.add_zero, Int.reduceAdd]; omega)) rfl ?_
        refine v_iastore (n := 49) (lz := 5) xB_169 dX11_run_48 (sh_84 _ _ _) (by decide) rfl (by first | omega | (simp only [sA_same, sA_s, ud_s, Int.reduceEq, if_true, if_false, ite_true, ite_false, ↓reduceIte, and_true, true_and, eq_self, Int.add_zero, Int.reduceAdd]; omega) | (simp (disch := omega) only [sA_same, sA_ne, ud_eq, ud_ne, Int.add_zero, Int.reduceAdd]; omega)) rfl ?_
        (try simp (disch := omega) only [sA_same, sA_ne, sA_sA, sA_sr, sB_s, ud_eq, ud_ne, ud_ud, ud_sr, uB_s, Int.add_zero, Int.reduceAdd])
        refine v_aload_n (n := 50) xB_169 dX11_run_49 rfl rfl ?_
        refine v_gf_i (n := 53) (kz := 30) xB_169 dX11_run_50 xO_169 fl_11_102 fg_11_30 rfl (sh_81 _ _ _) rfl rfl ?_
        refine v_ireturn0 xB_169 dX11_run_53 xK_169 ?_
        first | exact o1 (by omega) | exact o2 (by omega) | ((try simp (disch := omega) only [sA_same, sA_ne, sA_sA, sA_sr, sB_s, ud_eq, ud_ne, ud_ud, ud_sr, uB_s, Int.add_zero, Int.reduceAdd]); exact o3 _ _ _ _ _ _ _ c1 c2 c3 c4 c5 c6 c7 (by omega))
      · (try simp (disch := omega) only [sA_same, sA_ne, sA_sA, sA_sr, sB_s, ud_eq, ud_ne, ud_ud, ud_sr, uB_s, Int.add_zero, Int.reduceAdd] at g5)
        refine v_bipush (n := 32) xB_169 dX11_run_30 ⟨by decide, by decide⟩ rfl ?_
        refine v_ireturn0 xB_169 dX11_run_32 xK_169 ?_
        first | exact o1 (by omega) | exact o2 (by omega) | ((try simp (disch := omega) only [sA_same, sA_ne, sA_sA, sA_sr, sB_s, ud_eq, ud_ne, ud_ud, ud_sr, uB_s, Int.add_zero, Int.reduceAdd]); exact o3 _ _ _ _ _ _ _ c1 c2 c3 c4 c5 c6 c7 (by omega))
    · (try simp (disch := omega) only [sA_same, sA_ne, sA_sA, sA_sr, sB_s, ud_eq, ud_ne, ud_ud, ud_sr, uB_s, Int.add_zero, Int.reduceAdd] at g4)
      refine v_if_ne_n (n := 16) xB_169 dX11_run_13 (by decide) rfl (by decide) ?_
      refine v_iconst (n := 17) xB_169 dX11_run_16 ⟨by decide, by decide⟩ rfl ?_
      refine v_ireturn0 xB_169 dX11_run_17 xK_169 ?_
      first | exact o1 (by omega) | exact o2 (by omega) | ((try simp (disch := omega) only [sA_same, sA_ne, sA_sA, sA_sr, sB_s, ud_eq, ud_ne, ud_ud, ud_sr, uB_s, Int.add_zero, Int.reduceAdd]); exact o3 _ _ _ _ _ _ _ c1 c2 c3 c4 c5 c6 c7 (by omega))
  · (try simp (disch := omega) only [sA_same, sA_ne, sA_sA, sA_sr, sB_s, ud_eq, ud_ne, ud_ud, ud_sr, uB_s, Int.add_zero, Int.reduceAdd] at g2)
    refine v_if_eq_y (t := 16) xB_169 dX11_run_5 (by decide) rfl (by decide) ?_
    refine v_iconst (n := 17) xB_169 dX11_run_16 ⟨by decide, by decide⟩ rfl ?_
    refine v_ireturn0 xB_169 dX11_run_17 xK_169 ?_
    first | exact o1 (by omega) | exact o2 (by omega) | ((try simp (disch := omega) only [sA_same, sA_ne, sA_sA, sA_sr, sB_s, ud_eq, ud_ne, ud_ud, ud_sr, uB_s, Int.add_zero, Int.reduceAdd]); exact o3 _ _ _ _ _ _ _ c1 c2 c3 c4 c5 c6 c7 (by omega))
