/-! An act: the class against the reference. -/
def aL (a k : Int) : List Int := if a = 0 then fL k else if a = 1 then pL k else tL k
def aV (a k i v x : Int) : Int := if a = 0 then fV k i v x else if a = 1 then pV k i v x else tV k i v x
theorem aL_len (a k : Int) : (aL a k).length ≤ 12 := by
  have h1 := fL_len k; have h2 := pL_len k
  unfold aL tL; (repeat' split) <;> simp <;> omega
set_option maxHeartbeats 1000000 in
theorem c_act {d : Nat} {i a x : Int} {m : PM} {dy : List (Nat × Nat)} {L : Nat} {Q : Option PV → PS → Prop} (hd : 9 ≤ d) (hT : 0 ≤ m 81 0 ∧ m 81 0 ≤ 5) (h82 : 0 ≤ i → i < 5 → 0 ≤ m 82 i ∧ m 82 i ≤ 6) (o1 : (¬ ((0 ≤ i ∧ i < m 81 0) ∧ 0 ≤ a ∧ a ≤ 2)) → Q (some (.inl 0)) (setA m 81 (ud (m 81) 63 0), (none, (dy, L)))) (o2 : ((0 ≤ i ∧ i < m 81 0) ∧ 0 ≤ a ∧ a ≤ 2) → Q (some (.inl (aV a (m 82 i) i (m 83 i) x))) (setA (setA m 81 (ud (m 81) 63 (rsL 0 (aL a (m 82 i))))) 124 (ap (m 124) 0 (aL a (m 82 i))), (none, (dy, L)))) : C d 206 [.inr (.inr 81), .inl i, .inl a, .inl x] (m, (none, (dy, L))) Q := by
  refine C_go (k := 8) hd xL_206 (fun d hd => ?_)
  show V d 206 (0, ([some (.inr (.inr 81)), some (.inl i), some (.inl a), some (.inl x)], ([], (m, (none, (dy, L)))))) Q
  refine v_aload_n (n := 1) xB_206 dX11_act_0 rfl rfl ?_
  refine v_iconst (n := 2) xB_206 dX11_act_1 ⟨by decide, by decide⟩ rfl ?_
  refine v_pf_i (n := 5) (kz := 63) xB_206 dX11_act_2 xO_206 fl_11_202 fg_11_63 (Or.inl fn_11_63) (sh_81 _ _ _) (by decide) rfl rfl ?_
  (try simp (disch := omega) only [sA_same, sA_ne, sA_sA, sA_sr, sB_s, ud_eq, ud_ne, ud_ud, ud_sr, uB_s, Int.add_zero, Int.reduceAdd])
  refine v_aload_n (n := 6) xB_206 dX11_act_5 rfl rfl ?_
  refine v_iload_n (n := 7) xB_206 dX11_act_6 rfl rfl ?_
  refine v_call_v (n := 10) xB_206 dX11_act_7 xO_206 iv_11_225 rfl (sh_81 _ _ _) rfl rfl rfl ?_
  refine c_isTray (by omega) (by first | omega | (simp only [sA_same, sA_s, ud_s, Int.reduceEq, if_true, if_false, ite_true, ite_false, ↓reduceIte, and_true, true_and, eq_self, Int.add_zero, Int.reduceAdd]; omega) | (simp (disch := omega) only [sA_same, sA_ne, ud_eq, ud_ne, Int.add_zero, Int.reduceAdd]; omega)) (fun g1 => ?_) (fun g2 => ?_)
  · (try simp (disch := omega) only [sA_same, sA_ne, sA_sA, sA_sr, sB_s, ud_eq, ud_ne, ud_ud, ud_sr, uB_s, Int.add_zero, Int.reduceAdd] at g1)
    refine v_if_eq_n (n := 13) xB_206 dX11_act_10 (by decide) rfl (by decide) ?_
    refine v_aload_n (n := 14) xB_206 dX11_act_13 rfl rfl ?_
    refine v_iload_n (n := 15) xB_206 dX11_act_14 rfl rfl ?_
    refine v_iconst (n := 16) xB_206 dX11_act_15 ⟨by decide, by decide⟩ rfl ?_
    refine v_iconst (n := 17) xB_206 dX11_act_16 ⟨by decide, by decide⟩ rfl ?_
    refine v_call_v (n := 20) xB_206 dX11_act_17 xO_206 iv_11_221 rfl (sh_81 _ _ _) rfl rfl rfl ?_
    refine c_in (by omega)  (fun g3 => ?_) (fun g4 => ?_)
    · (try simp (disch := omega) only [sA_same, sA_ne, sA_sA, sA_sr, sB_s, ud_eq, ud_ne, ud_ud, ud_sr, uB_s, Int.add_zero, Int.reduceAdd] at g3)
      refine v_if_ne_y (t := 25) xB_206 dX11_act_20 (by decide) rfl (by decide) ?_
      refine v_iload_n (n := 26) xB_206 dX11_act_25 rfl rfl ?_
      refine v_if_ne (t := 38) (n := 29) xB_206 dX11_act_26 (by decide) rfl rfl (fun g5 => ?_) (fun g5 => ?_)
      · (try simp (disch := omega) only [sA_same, sA_ne, sA_sA, sA_sr, sB_s, ud_eq, ud_ne, ud_ud, ud_sr, uB_s, Int.add_zero, Int.reduceAdd] at g5)
        refine v_iload_n (n := 39) xB_206 dX11_act_38 rfl rfl ?_
        refine v_iconst (n := 40) xB_206 dX11_act_39 ⟨by decide, by decide⟩ rfl ?_
        refine v_ic_ne (t := 52) (n := 43) xB_206 dX11_act_40 (by decide) rfl rfl (fun g6 => ?_) (fun g6 => ?_)
        · (try simp (disch := omega) only [sA_same, sA_ne, sA_sA, sA_sr, sB_s, ud_eq, ud_ne, ud_ud, ud_sr, uB_s, Int.add_zero, Int.reduceAdd] at g6)
          refine v_aload_n (n := 53) xB_206 dX11_act_52 rfl rfl ?_
          refine v_iload_n (n := 54) xB_206 dX11_act_53 rfl rfl ?_
          refine v_iload_n (n := 55) xB_206 dX11_act_54 rfl rfl ?_
          refine v_call_v (n := 58) xB_206 dX11_act_55 xO_206 iv_11_410 rfl (sh_81 _ _ _) rfl rfl rfl ?_
          refine c_tellsAct (by omega) (by first | omega | (simp only [sA_same, sA_s, ud_s, Int.reduceEq, if_true, if_false, ite_true, ite_false, ↓reduceIte, and_true, true_and, eq_self, Int.add_zero, Int.reduceAdd]; omega) | (simp (disch := omega) only [sA_same, sA_ne, ud_eq, ud_ne, Int.add_zero, Int.reduceAdd]; omega)) (by first | omega | (simp only [sA_same, sA_s, ud_s, Int.reduceEq, if_true, if_false, ite_true, ite_false, ↓reduceIte, and_true, true_and, eq_self, Int.add_zero, Int.reduceAdd]; omega) | (simp (disch := omega) only [sA_same, sA_ne, ud_eq, ud_ne, Int.add_zero, Int.reduceAdd]; omega)) (by simp (disch := omega) only [sA_ne]; exact h82 (by omega) (by omega)) ?_
          (try simp (disch := omega) only [sA_same, sA_ne, sA_sA, sA_sr, sB_s, ud_eq, ud_ne, ud_ud, ud_sr, uB_s, Int.add_zero, Int.reduceAdd])
          refine v_ireturn0 xB_206 dX11_act_58 xK_206 ?_
          first | exact o1 (by omega) | (have e0 : a = 0 := (by omega); subst e0; exact o2 (by omega)) | (have e0 : a = 1 := (by omega); subst e0; exact o2 (by omega)) | (have e0 : a = 2 := (by omega); subst e0; exact o2 (by omega))
        · (try simp (disch := omega) only [sA_same, sA_ne, sA_sA, sA_sr, sB_s, ud_eq, ud_ne, ud_ud, ud_sr, uB_s, Int.add_zero, Int.reduceAdd] at g6)
          refine v_aload_n (n := 44) xB_206 dX11_act_43 rfl rfl ?_
          refine v_iload_n (n := 45) xB_206 dX11_act_44 rfl rfl ?_
          refine v_iload_n (n := 46) xB_206 dX11_act_45 rfl rfl ?_
          refine v_call_v (n := 49) xB_206 dX11_act_46 xO_206 iv_11_404 rfl (sh_81 _ _ _) rfl rfl rfl ?_
          refine c_printsAct (by omega) (by first | omega | (simp only [sA_same, sA_s, ud_s, Int.reduceEq, if_true, if_false, ite_true, ite_false, ↓reduceIte, and_true, true_and, eq_self, Int.add_zero, Int.reduceAdd]; omega) | (simp (disch := omega) only [sA_same, sA_ne, ud_eq, ud_ne, Int.add_zero, Int.reduceAdd]; omega)) (by first | omega | (simp only [sA_same, sA_s, ud_s, Int.reduceEq, if_true, if_false, ite_true, ite_false, ↓reduceIte, and_true, true_and, eq_self, Int.add_zero, Int.reduceAdd]; omega) | (simp (disch := omega) only [sA_same, sA_ne, ud_eq, ud_ne, Int.add_zero, Int.reduceAdd]; omega)) (by simp (disch := omega) only [sA_ne]; exact h82 (by omega) (by omega)) ?_
          (try simp (disch := omega) only [sA_same, sA_ne, sA_sA, sA_sr, sB_s, ud_eq, ud_ne, ud_ud, ud_sr, uB_s, Int.add_zero, Int.reduceAdd])
          refine v_goto (t := 58) xB_206 dX11_act_49 (by decide) rfl ?_
          refine v_ireturn0 xB_206 dX11_act_58 xK_206 ?_
          first | exact o1 (by omega) | (have e0 : a = 0 := (by omega); subst e0; exact o2 (by omega)) | (have e0 : a = 1 := (by omega); subst e0; exact o2 (by omega)) | (have e0 : a = 2 := (by omega); subst e0; exact o2 (by omega))
      · (try simp (disch := omega) only [sA_same, sA_ne, sA_sA, sA_sr, sB_s, ud_eq, ud_ne, ud_ud, ud_sr, uB_s, Int.add_zero, Int.reduceAdd] at g5)
        refine v_aload_n (n := 30) xB_206 dX11_act_29 rfl rfl ?_
        refine v_iload_n (n := 31) xB_206 dX11_act_30 rfl rfl ?_
        refine v_iload_n (n := 32) xB_206 dX11_act_31 rfl rfl ?_
        refine v_call_v (n := 35) xB_206 dX11_act_32 xO_206 iv_11_395 rfl (sh_81 _ _ _) rfl rfl rfl ?_
        refine c_feedsAct (by omega) (by first | omega | (simp only [sA_same, sA_s, ud_s, Int.reduceEq, if_true, if_false, ite_true, ite_false, ↓reduceIte, and_true, true_and, eq_self, Int.add_zero, Int.reduceAdd]; omega) | (simp (disch := omega) only [sA_same, sA_ne, ud_eq, ud_ne, Int.add_zero, Int.reduceAdd]; omega)) (by first | omega | (simp only [sA_same, sA_s, ud_s, Int.reduceEq, if_true, if_false, ite_true, ite_false, ↓reduceIte, and_true, true_and, eq_self, Int.add_zero, Int.reduceAdd]; omega) | (simp (disch := omega) only [sA_same, sA_ne, ud_eq, ud_ne, Int.add_zero, Int.reduceAdd]; omega)) (by simp (disch := omega) only [sA_ne]; exact h82 (by omega) (by omega)) ?_
        (try simp (disch := omega) only [sA_same, sA_ne, sA_sA, sA_sr, sB_s, ud_eq, ud_ne, ud_ud, ud_sr, uB_s, Int.add_zero, Int.reduceAdd])
        refine v_goto (t := 58) xB_206 dX11_act_35 (by decide) rfl ?_
        refine v_ireturn0 xB_206 dX11_act_58 xK_206 ?_
        first | exact o1 (by omega) | (have e0 : a = 0 := (by omega); subst e0; exact o2 (by omega)) | (have e0 : a = 1 := (by omega); subst e0; exact o2 (by omega)) | (have e0 : a = 2 := (by omega); subst e0; exact o2 (by omega))
    · (try simp (disch := omega) only [sA_same, sA_ne, sA_sA, sA_sr, sB_s, ud_eq, ud_ne, ud_ud, ud_sr, uB_s, Int.add_zero, Int.reduceAdd] at g4)
      refine v_if_ne_n (n := 23) xB_206 dX11_act_20 (by decide) rfl (by decide) ?_
      refine v_iconst (n := 24) xB_206 dX11_act_23 ⟨by decide, by decide⟩ rfl ?_
      refine v_ireturn0 xB_206 dX11_act_24 xK_206 ?_
      first | exact o1 (by omega) | (have e0 : a = 0 := (by omega); subst e0; exact o2 (by omega)) | (have e0 : a = 1 := (by omega); subst e0; exact o2 (by omega)) | (have e0 : a = 2 := (by omega); subst e0; exact o2 (by omega))
  · (try simp (disch := omega) only [sA_same, sA_ne, sA_sA, sA_sr, sB_s, ud_eq, ud_ne, ud_ud, ud_sr, uB_s, Int.add_zero, Int.reduceAdd] at g2)
    refine v_if_eq_y (t := 23) xB_206 dX11_act_10 (by decide) rfl (by decide) ?_
    refine v_iconst (n := 24) xB_206 dX11_act_23 ⟨by decide, by decide⟩ rfl ?_
    refine v_ireturn0 xB_206 dX11_act_24 xK_206 ?_
    first | exact o1 (by omega) | (have e0 : a = 0 := (by omega); subst e0; exact o2 (by omega)) | (have e0 : a = 1 := (by omega); subst e0; exact o2 (by omega)) | (have e0 : a = 2 := (by omega); subst e0; exact o2 (by omega))
set_option maxHeartbeats 1000000 in
theorem k_doAct {d : Nat} {i t a x : Int} {m : PM} {dy : List (Nat × Nat)} {L : Nat} {Q : Option PV → PS → Prop} (hd : 10 ≤ d) (ht : 0 ≤ t ∧ t < 5) (h0 : m 66 1 = 0) (hk : 0 ≤ m (17 + 2 * t) 0 ∧ m (17 + 2 * t) 0 ≤ 6) (o1 : (¬ (0 ≤ a ∧ a ≤ 2)) → Q (some (.inl 0)) (setA m 66 (ud (ud (ud (m 66) 2 i) 3 (m (17 + 2 * t) 0)) 4 (m (17 + 2 * t) 1)), (none, (dy, L)))) (o2 : (0 ≤ a ∧ a ≤ 2) → Q (some (.inl (aV a (m (17 + 2 * t) 0) i (m (17 + 2 * t) 1) x))) (setA (setA m 66 (ud (ud (ud (ud (m 66) 1 (rsL (m 66 1) (aL a (m (17 + 2 * t) 0)))) 2 i) 3 (m (17 + 2 * t) 0)) 4 (m (17 + 2 * t) 1))) 67 (ap (m 67) (m 66 1) (aL a (m (17 + 2 * t) 0))), (none, (dy, L)))) : C d 2 [.inr (.inr 66), .inl i, .inr (.inr (17 + 2 * t)), .inl a, .inl x] (m, (none, (dy, L))) Q := by
  refine C_go (k := 9) hd xL_2 (fun d hd => ?_)
  show V d 2 (0, ([some (.inr (.inr 66)), some (.inl i), some (.inr (.inr (17 + 2 * t))), some (.inl a), some (.inl x)], ([], (m, (none, (dy, L)))))) Q
  refine v_aload_n (n := 1) xB_2 dX0_doAct_0 rfl rfl ?_
  refine v_iload_n (n := 2) xB_2 dX0_doAct_1 rfl rfl ?_
  refine v_pf_i (n := 5) (kz := 2) xB_2 dX0_doAct_2 xO_2 fl_0_19 fg_0_2 (Or.inl fn_0_2) (sh_66 _ _ _) (by decide) rfl rfl ?_
  (try simp (disch := omega) only [sA_same, sA_ne, sA_sA, sA_sr, sB_s, ud_eq, ud_ne, ud_ud, ud_sr, uB_s, Int.add_zero, Int.reduceAdd])
  refine v_aload_n (n := 6) xB_2 dX0_doAct_5 rfl rfl ?_
  refine v_aload_n (n := 7) xB_2 dX0_doAct_6 rfl rfl ?_
  refine v_gf_i (n := 10) (kz := 0) xB_2 dX0_doAct_7 xO_2 fl_0_22 fg_9_0 rfl (sh_T (by first | omega | (simp only [sA_same, sA_s, ud_s, Int.reduceEq, if_true, if_false, ite_true, ite_false, ↓reduceIte, and_true, true_and, eq_self, Int.add_zero, Int.reduceAdd]; omega) | (simp (disch := omega) only [sA_same, sA_ne, ud_eq, ud_ne, Int.add_zero, Int.reduceAdd]; omega)) _ _ _) rfl rfl ?_
  refine v_pf_i (n := 13) (kz := 3) xB_2 dX0_doAct_10 xO_2 fl_0_27 fg_0_3 (Or.inl fn_0_3) (sh_66 _ _ _) (by decide) rfl rfl ?_
  (try simp (disch := omega) only [sA_same, sA_ne, sA_sA, sA_sr, sB_s, ud_eq, ud_ne, ud_ud, ud_sr, uB_s, Int.add_zero, Int.reduceAdd])
  refine v_aload_n (n := 14) xB_2 dX0_doAct_13 rfl rfl ?_
  refine v_aload_n (n := 15) xB_2 dX0_doAct_14 rfl rfl ?_
  refine v_gf_i (n := 18) (kz := 1) xB_2 dX0_doAct_15 xO_2 fl_0_28 fg_9_1 rfl (sh_T (by first | omega | (simp only [sA_same, sA_s, ud_s, Int.reduceEq, if_true, if_false, ite_true, ite_false, ↓reduceIte, and_true, true_and, eq_self, Int.add_zero, Int.reduceAdd]; omega) | (simp (disch := omega) only [sA_same, sA_ne, ud_eq, ud_ne, Int.add_zero, Int.reduceAdd]; omega)) _ _ _) rfl rfl ?_
  refine v_pf_i (n := 21) (kz := 4) xB_2 dX0_doAct_18 xO_2 fl_0_31 fg_0_4 (Or.inl fn_0_4) (sh_66 _ _ _) (by decide) rfl rfl ?_
  (try simp (disch := omega) only [sA_same, sA_ne, sA_sA, sA_sr, sB_s, ud_eq, ud_ne, ud_ud, ud_sr, uB_s, Int.add_zero, Int.reduceAdd])
  refine v_iload_n (n := 22) xB_2 dX0_doAct_21 rfl rfl ?_
  refine v_tsw xB_2 dX0_doAct_22 rfl ?_
  refine ts_c (lo' := 1) rfl (fun g1 => ?_) (fun g1 => ?_)
  · refine jm_go (t := 48) (by decide) rfl ?_
    refine v_aload_n (n := 49) xB_2 dX0_doAct_48 rfl rfl ?_
    refine v_aload_n (n := 50) xB_2 dX0_doAct_49 rfl rfl ?_
    refine v_gf_i (n := 53) (kz := 3) xB_2 dX0_doAct_50 xO_2 fl_0_27 fg_0_3 rfl (sh_66 _ _ _) rfl rfl ?_
    refine v_iload (n := 55) xB_2 dX0_doAct_53 rfl rfl ?_
    refine v_iconst (n := 56) xB_2 dX0_doAct_55 ⟨by decide, by decide⟩ rfl ?_
    refine v_call_v (n := 59) xB_2 dX0_doAct_56 xO_2 iv_0_32 rfl (sh_66 _ _ _) rfl rfl rfl ?_
    refine k_feeds (by omega) (by first | omega | (simp only [sA_same, sA_s, ud_s, Int.reduceEq, if_true, if_false, ite_true, ite_false, ↓reduceIte, and_true, true_and, eq_self, Int.add_zero, Int.reduceAdd]; omega) | (simp (disch := omega) only [sA_same, sA_ne, ud_eq, ud_ne, Int.add_zero, Int.reduceAdd]; omega)) (by decide) (by first | omega | (simp only [sA_same, sA_s, ud_s, Int.reduceEq, if_true, if_false, ite_true, ite_false, ↓reduceIte, and_true, true_and, eq_self, Int.add_zero, Int.reduceAdd]; omega) | (simp (disch := omega) only [sA_same, sA_ne, ud_eq, ud_ne, Int.add_zero, Int.reduceAdd]; omega)) ?_
    (try simp (disch := omega) only [sA_same, sA_ne, sA_sA, sA_sr, sB_s, ud_eq, ud_ne, ud_ud, ud_sr, uB_s, Int.add_zero, Int.reduceAdd])
    refine v_ireturn0 xB_2 dX0_doAct_59 xK_2 ?_
    first | exact o1 (by omega) | (have e0 : a = 0 := (by omega); subst e0; exact o2 (by omega)) | (have e0 : a = 1 := (by omega); subst e0; exact o2 (by omega)) | (have e0 : a = 2 := (by omega); subst e0; exact o2 (by omega))
  refine ts_c (lo' := 2) rfl (fun g2 => ?_) (fun g2 => ?_)
  · refine jm_go (t := 60) (by decide) rfl ?_
    refine v_aload_n (n := 61) xB_2 dX0_doAct_60 rfl rfl ?_
    refine v_aload_n (n := 62) xB_2 dX0_doAct_61 rfl rfl ?_
    refine v_gf_i (n := 65) (kz := 3) xB_2 dX0_doAct_62 xO_2 fl_0_27 fg_0_3 rfl (sh_66 _ _ _) rfl rfl ?_
    refine v_iload (n := 67) xB_2 dX0_doAct_65 rfl rfl ?_
    refine v_iconst (n := 68) xB_2 dX0_doAct_67 ⟨by decide, by decide⟩ rfl ?_
    refine v_call_v (n := 71) xB_2 dX0_doAct_68 xO_2 iv_0_36 rfl (sh_66 _ _ _) rfl rfl rfl ?_
    refine k_prints (by omega) (by first | omega | (simp only [sA_same, sA_s, ud_s, Int.reduceEq, if_true, if_false, ite_true, ite_false, ↓reduceIte, and_true, true_and, eq_self, Int.add_zero, Int.reduceAdd]; omega) | (simp (disch := omega) only [sA_same, sA_ne, ud_eq, ud_ne, Int.add_zero, Int.reduceAdd]; omega)) (by decide) (by first | omega | (simp only [sA_same, sA_s, ud_s, Int.reduceEq, if_true, if_false, ite_true, ite_false, ↓reduceIte, and_true, true_and, eq_self, Int.add_zero, Int.reduceAdd]; omega) | (simp (disch := omega) only [sA_same, sA_ne, ud_eq, ud_ne, Int.add_zero, Int.reduceAdd]; omega)) (by first | omega | (simp only [sA_same, sA_s, ud_s, Int.reduceEq, if_true, if_false, ite_true, ite_false, ↓reduceIte, and_true, true_and, eq_self, Int.add_zero, Int.reduceAdd]; omega) | (simp (disch := omega) only [sA_same, sA_ne, ud_eq, ud_ne, Int.add_zero, Int.reduceAdd]; omega)) ?_
    (try simp (disch := omega) only [sA_same, sA_ne, sA_sA, sA_sr, sB_s, ud_eq, ud_ne, ud_ud, ud_sr, uB_s, Int.add_zero, Int.reduceAdd])
    refine v_ireturn0 xB_2 dX0_doAct_71 xK_2 ?_
    first | exact o1 (by omega) | (have e0 : a = 0 := (by omega); subst e0; exact o2 (by omega)) | (have e0 : a = 1 := (by omega); subst e0; exact o2 (by omega)) | (have e0 : a = 2 := (by omega); subst e0; exact o2 (by omega))
  refine ts_c (lo' := 3) rfl (fun g3 => ?_) (fun g3 => ?_)
  · refine jm_go (t := 72) (by decide) rfl ?_
    refine v_aload_n (n := 73) xB_2 dX0_doAct_72 rfl rfl ?_
    refine v_aload_n (n := 74) xB_2 dX0_doAct_73 rfl rfl ?_
    refine v_gf_i (n := 77) (kz := 3) xB_2 dX0_doAct_74 xO_2 fl_0_27 fg_0_3 rfl (sh_66 _ _ _) rfl rfl ?_
    refine v_iload (n := 79) xB_2 dX0_doAct_77 rfl rfl ?_
    refine v_iconst (n := 80) xB_2 dX0_doAct_79 ⟨by decide, by decide⟩ rfl ?_
    refine v_call_v (n := 83) xB_2 dX0_doAct_80 xO_2 iv_0_39 rfl (sh_66 _ _ _) rfl rfl rfl ?_
    refine k_tells (by omega) (by first | omega | (simp only [sA_same, sA_s, ud_s, Int.reduceEq, if_true, if_false, ite_true, ite_false, ↓reduceIte, and_true, true_and, eq_self, Int.add_zero, Int.reduceAdd]; omega) | (simp (disch := omega) only [sA_same, sA_ne, ud_eq, ud_ne, Int.add_zero, Int.reduceAdd]; omega)) (by decide) (by first | omega | (simp only [sA_same, sA_s, ud_s, Int.reduceEq, if_true, if_false, ite_true, ite_false, ↓reduceIte, and_true, true_and, eq_self, Int.add_zero, Int.reduceAdd]; omega) | (simp (disch := omega) only [sA_same, sA_ne, ud_eq, ud_ne, Int.add_zero, Int.reduceAdd]; omega)) (by first | omega | (simp only [sA_same, sA_s, ud_s, Int.reduceEq, if_true, if_false, ite_true, ite_false, ↓reduceIte, and_true, true_and, eq_self, Int.add_zero, Int.reduceAdd]; omega) | (simp (disch := omega) only [sA_same, sA_ne, ud_eq, ud_ne, Int.add_zero, Int.reduceAdd]; omega)) ?_
    (try simp (disch := omega) only [sA_same, sA_ne, sA_sA, sA_sr, sB_s, ud_eq, ud_ne, ud_ud, ud_sr, uB_s, Int.add_zero, Int.reduceAdd])
    refine v_ireturn0 xB_2 dX0_doAct_83 xK_2 ?_
    first | exact o1 (by omega) | (have e0 : a = 0 := (by omega); subst e0; exact o2 (by omega)) | (have e0 : a = 1 := (by omega); subst e0; exact o2 (by omega)) | (have e0 : a = 2 := (by omega); subst e0; exact o2 (by omega))
  refine ts_n ?_
  refine jm_go (t := 84) (by decide) rfl ?_
  refine v_iconst (n := 85) xB_2 dX0_doAct_84 ⟨by decide, by decide⟩ rfl ?_
  refine v_ireturn0 xB_2 dX0_doAct_85 xK_2 ?_
  first | exact o1 (by omega) | (have e0 : a = 0 := (by omega); subst e0; exact o2 (by omega)) | (have e0 : a = 1 := (by omega); subst e0; exact o2 (by omega)) | (have e0 : a = 2 := (by omega); subst e0; exact o2 (by omega))
