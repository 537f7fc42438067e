/-! The image: the class. -/
theorem c3q {m : PM} {a b c : Int} {f f2 g g2 h h2 : Int → Int} (e1 : f = f2) (e2 : g = g2) (e3 : h = h2) : setA (setA (setA m a f) b g) c h = setA (setA (setA m a f2) b g2) c h2 := by rw [e1, e2, e3]
set_option maxHeartbeats 1000000 in
theorem k_ncopy {d : Nat} {q q2 : Int} {m : PM} {dy : List (Nat × Nat)} {L : Nat} {Q : Option PV → PS → Prop} (hd : 1 ≤ d) (hq : notA q) (hq2 : notA q2) (hne : q2 = q + 26 ∨ q = q2 + 26) (hnn : notN q = notN q2) (h3 : 0 ≤ m q2 3 ∧ m q2 3 ≤ (notN q2 : Int)) (o1 : Q (none) (setA (setA (setA (setA m q (ud (m q) 3 (m q2 3))) (q + 1) (ivl (m (q2 + 1)) (m (q + 1)) 0 (m q2 3))) (q + 2) (ivl (m (q2 + 2)) (m (q + 2)) 0 (m q2 3))) (q + 3) (ivl (m (q2 + 3)) (m (q + 3)) 0 (m q2 3)), (none, (dy, L)))) : C d 22 [.inr (.inr q), .inr (.inr q2)] (m, (none, (dy, L))) Q := by
  refine C_go (k := 0) hd xL_22 (fun d hd => ?_)
  show V d 22 (0, ([some (.inr (.inr q)), some (.inr (.inr q2)), none], ([], (m, (none, (dy, L)))))) Q
  have hqd : q = 5 ∨ q = 9 ∨ q = 13 ∨ q = 31 ∨ q = 35 ∨ q = 39 := hq
  have hqd2 : q2 = 5 ∨ q2 = 9 ∨ q2 = 13 ∨ q2 = 31 ∨ q2 = 35 ∨ q2 = 39 := hq2
  have hnn2 : notN q2 ≤ 8 := by unfold notN; (repeat' split) <;> omega
  refine v_iconst (n := 1) xB_22 dX3_copyFrom_0 ⟨by decide, by decide⟩ rfl ?_
  refine v_istore_n2 (n := 2) xB_22 dX3_copyFrom_1 rfl rfl ?_
  refine lp_up (F := fun (k : Int) (m' : PM) => V d 22 (2, ([some (.inr (.inr q)), some (.inr (.inr q2)), some (.inl (k))], ([], (m', (none, (dy, L)))))) Q) (E := fun (k : Int) (m' : PM) => m' = setA (setA (setA m (q + 1) (ivl (m (q2 + 1)) (m (q + 1)) 0 (k))) (q + 2) (ivl (m (q2 + 2)) (m (q + 2)) 0 (k))) (q + 3) (ivl (m (q2 + 3)) (m (q + 3)) 0 (k))) (a := 0) (b := m q2 3) ?_ ?_ (0) (_) (by first | omega | (simp only [sA_same, sA_s, ud_s, Int.reduceEq, if_true, if_false, ite_true, ite_false, ↓reduceIte, and_true, true_and, eq_self, Int.add_zero, Int.reduceAdd]; omega) | (simp (disch := omega) only [sA_same, sA_ne, ud_eq, ud_ne, Int.add_zero, Int.reduceAdd]; omega)) (by first | omega | (simp only [sA_same, sA_s, ud_s, Int.reduceEq, if_true, if_false, ite_true, ite_false, ↓reduceIte, and_true, true_and, eq_self, Int.add_zero, Int.reduceAdd]; omega) | (simp (disch := omega) only [sA_same, sA_ne, ud_eq, ud_ne, Int.add_zero, Int.reduceAdd]; omega)) ?_
  · intro m' hm
    show V d 22 (2, ([some (.inr (.inr q)), some (.inr (.inr q2)), some (.inl (m q2 3))], ([], (m', (none, (dy, L)))))) Q
    subst hm
    refine v_iload_n (n := 3) xB_22 dX3_copyFrom_2 rfl rfl ?_
    refine v_aload_n (n := 4) xB_22 dX3_copyFrom_3 rfl rfl ?_
    refine v_gf_i (n := 7) (kz := 3) xB_22 dX3_copyFrom_4 xO_22 fl_3_19 fg_3_3 rfl (sh_N hq2 _ _ _) rfl rfl ?_
    refine v_ic_ge_y (t := 61) xB_22 dX3_copyFrom_7 (by decide) rfl (by first | omega | (simp only [sA_same, sA_s, ud_s, Int.reduceEq, if_true, if_false, ite_true, ite_false, ↓reduceIte, and_true, true_and, eq_self, Int.add_zero, Int.reduceAdd]; omega) | (simp (disch := omega) only [sA_same, sA_ne, ud_eq, ud_ne, Int.add_zero, Int.reduceAdd]; omega)) ?_
    refine v_aload_n (n := 62) xB_22 dX3_copyFrom_61 rfl rfl ?_
    refine v_aload_n (n := 63) xB_22 dX3_copyFrom_62 rfl rfl ?_
    refine v_gf_i (n := 66) (kz := 3) xB_22 dX3_copyFrom_63 xO_22 fl_3_19 fg_3_3 rfl (sh_N hq2 _ _ _) rfl rfl ?_
    refine v_pf_i (n := 69) (kz := 3) xB_22 dX3_copyFrom_66 xO_22 fl_3_19 fg_3_3 (Or.inl fn_3_3) (sh_N hq _ _ _) (by unfold notA at hq; omega) rfl rfl ?_
    (try simp (disch := omega) only [sA_same, sA_ne, sA_sA, sA_sr, sB_s, ud_eq, ud_ne, ud_ud, ud_sr, uB_s, Int.add_zero, Int.reduceAdd])
    refine v_return xB_22 dX3_copyFrom_69 xK_22 ?_
    (try simp (disch := omega) only [sA_same, sA_ne, sA_sA, sA_sr, sB_s, ud_eq, ud_ne, ud_ud, ud_sr, uB_s, Int.add_zero, Int.reduceAdd])
    exact o1
  · intro k m' h1 h2 hm ih
    show V d 22 (2, ([some (.inr (.inr q)), some (.inr (.inr q2)), some (.inl (k))], ([], (m', (none, (dy, L)))))) Q
    subst hm
    refine v_iload_n (n := 3) xB_22 dX3_copyFrom_2 rfl rfl ?_
    refine v_aload_n (n := 4) xB_22 dX3_copyFrom_3 rfl rfl ?_
    refine v_gf_i (n := 7) (kz := 3) xB_22 dX3_copyFrom_4 xO_22 fl_3_19 fg_3_3 rfl (sh_N hq2 _ _ _) rfl rfl ?_
    refine v_ic_ge_n (n := 10) xB_22 dX3_copyFrom_7 (by decide) rfl (by first | omega | (simp only [sA_same, sA_s, ud_s, Int.reduceEq, if_true, if_false, ite_true, ite_false, ↓reduceIte, and_true, true_and, eq_self, Int.add_zero, Int.reduceAdd]; omega) | (simp (disch := omega) only [sA_same, sA_ne, ud_eq, ud_ne, Int.add_zero, Int.reduceAdd]; omega)) ?_
    refine v_iload_n (n := 11) xB_22 dX3_copyFrom_10 rfl rfl ?_
    refine v_aload_n (n := 12) xB_22 dX3_copyFrom_11 rfl rfl ?_
    refine v_gf_s (n := 15) (kz := 0) xB_22 dX3_copyFrom_12 xO_22 fl_3_7 fg_3_0 (sh_N hq _ _ _) rfl (st_N1 hq) rfl ?_
    refine v_alen (n := 16) (lz := (notN q : Int)) xB_22 dX3_copyFrom_15 (sh_N1 hq _ _ _) (by decide) rfl rfl ?_
    refine v_ic_ge_n (n := 19) xB_22 dX3_copyFrom_16 (by decide) rfl (by first | omega | (simp only [sA_same, sA_s, ud_s, Int.reduceEq, if_true, if_false, ite_true, ite_false, ↓reduceIte, and_true, true_and, eq_self, Int.add_zero, Int.reduceAdd]; omega) | (simp (disch := omega) only [sA_same, sA_ne, ud_eq, ud_ne, Int.add_zero, Int.reduceAdd]; omega)) ?_
    refine v_aload_n (n := 20) xB_22 dX3_copyFrom_19 rfl rfl ?_
    refine v_gf_s (n := 23) (kz := 0) xB_22 dX3_copyFrom_20 xO_22 fl_3_7 fg_3_0 (sh_N hq _ _ _) rfl (st_N1 hq) rfl ?_
    refine v_iload_n (n := 24) xB_22 dX3_copyFrom_23 rfl rfl ?_
    refine v_aload_n (n := 25) xB_22 dX3_copyFrom_24 rfl rfl ?_
    refine v_gf_s (n := 28) (kz := 0) xB_22 dX3_copyFrom_25 xO_22 fl_3_7 fg_3_0 (sh_N hq2 _ _ _) rfl (st_N1 hq2) rfl ?_
    refine v_iload_n (n := 29) xB_22 dX3_copyFrom_28 rfl rfl ?_
    refine v_iaload (n := 30) (lz := (notN q2 : Int)) xB_22 dX3_copyFrom_29 (sh_N1 hq2 _ _ _) rfl (by first | omega | (simp only [sA_same, sA_s, ud_s, Int.reduceEq, if_true, if_false, ite_true, ite_false, ↓reduceIte, and_true, true_and, eq_self, Int.add_zero, Int.reduceAdd]; omega) | (simp (disch := omega) only [sA_same, sA_ne, ud_eq, ud_ne, Int.add_zero, Int.reduceAdd]; omega)) rfl ?_
    refine v_iastore (n := 31) (lz := (notN q : Int)) xB_22 dX3_copyFrom_30 (sh_N1 hq _ _ _) (by unfold notA at hq; omega) rfl (by first | omega | (simp only [sA_same, sA_s, ud_s, Int.reduceEq, if_true, if_false, ite_true, ite_false, ↓reduceIte, and_true, true_and, eq_self, Int.add_zero, Int.reduceAdd]; omega) | (simp (disch := omega) only [sA_same, sA_ne, ud_eq, ud_ne, Int.add_zero, Int.reduceAdd]; omega)) rfl ?_
    (try simp (disch := omega) only [sA_same, sA_ne, sA_sA, sA_sr, sB_s, ud_eq, ud_ne, ud_ud, ud_sr, uB_s, Int.add_zero, Int.reduceAdd])
    refine v_aload_n (n := 32) xB_22 dX3_copyFrom_31 rfl rfl ?_
    refine v_gf_s (n := 35) (kz := 1) xB_22 dX3_copyFrom_32 xO_22 fl_3_13 fg_3_1 (sh_N hq _ _ _) rfl (st_N2 hq) rfl ?_
    refine v_iload_n (n := 36) xB_22 dX3_copyFrom_35 rfl rfl ?_
    refine v_aload_n (n := 37) xB_22 dX3_copyFrom_36 rfl rfl ?_
    refine v_gf_s (n := 40) (kz := 1) xB_22 dX3_copyFrom_37 xO_22 fl_3_13 fg_3_1 (sh_N hq2 _ _ _) rfl (st_N2 hq2) rfl ?_
    refine v_iload_n (n := 41) xB_22 dX3_copyFrom_40 rfl rfl ?_
    refine v_iaload (n := 42) (lz := (notN q2 : Int)) xB_22 dX3_copyFrom_41 (sh_N2 hq2 _ _ _) rfl (by first | omega | (simp only [sA_same, sA_s, ud_s, Int.reduceEq, if_true, if_false, ite_true, ite_false, ↓reduceIte, and_true, true_and, eq_self, Int.add_zero, Int.reduceAdd]; omega) | (simp (disch := omega) only [sA_same, sA_ne, ud_eq, ud_ne, Int.add_zero, Int.reduceAdd]; omega)) rfl ?_
    refine v_iastore (n := 43) (lz := (notN q : Int)) xB_22 dX3_copyFrom_42 (sh_N2 hq _ _ _) (by unfold notA at hq; omega) rfl (by first | omega | (simp only [sA_same, sA_s, ud_s, Int.reduceEq, if_true, if_false, ite_true, ite_false, ↓reduceIte, and_true, true_and, eq_self, Int.add_zero, Int.reduceAdd]; omega) | (simp (disch := omega) only [sA_same, sA_ne, ud_eq, ud_ne, Int.add_zero, Int.reduceAdd]; omega)) rfl ?_
    (try simp (disch := omega) only [sA_same, sA_ne, sA_sA, sA_sr, sB_s, ud_eq, ud_ne, ud_ud, ud_sr, uB_s, Int.add_zero, Int.reduceAdd])
    refine v_aload_n (n := 44) xB_22 dX3_copyFrom_43 rfl rfl ?_
    refine v_gf_s (n := 47) (kz := 2) xB_22 dX3_copyFrom_44 xO_22 fl_3_16 fg_3_2 (sh_N hq _ _ _) rfl (st_N3 hq) rfl ?_
    refine v_iload_n (n := 48) xB_22 dX3_copyFrom_47 rfl rfl ?_
    refine v_aload_n (n := 49) xB_22 dX3_copyFrom_48 rfl rfl ?_
    refine v_gf_s (n := 52) (kz := 2) xB_22 dX3_copyFrom_49 xO_22 fl_3_16 fg_3_2 (sh_N hq2 _ _ _) rfl (st_N3 hq2) rfl ?_
    refine v_iload_n (n := 53) xB_22 dX3_copyFrom_52 rfl rfl ?_
    refine v_iaload (n := 54) (lz := (notN q2 : Int)) xB_22 dX3_copyFrom_53 (sh_N3 hq2 _ _ _) rfl (by first | omega | (simp only [sA_same, sA_s, ud_s, Int.reduceEq, if_true, if_false, ite_true, ite_false, ↓reduceIte, and_true, true_and, eq_self, Int.add_zero, Int.reduceAdd]; omega) | (simp (disch := omega) only [sA_same, sA_ne, ud_eq, ud_ne, Int.add_zero, Int.reduceAdd]; omega)) rfl ?_
    refine v_iastore (n := 55) (lz := (notN q : Int)) xB_22 dX3_copyFrom_54 (sh_N3 hq _ _ _) (by unfold notA at hq; omega) rfl (by first | omega | (simp only [sA_same, sA_s, ud_s, Int.reduceEq, if_true, if_false, ite_true, ite_false, ↓reduceIte, and_true, true_and, eq_self, Int.add_zero, Int.reduceAdd]; omega) | (simp (disch := omega) only [sA_same, sA_ne, ud_eq, ud_ne, Int.add_zero, Int.reduceAdd]; omega)) rfl ?_
    (try simp (disch := omega) only [sA_same, sA_ne, sA_sA, sA_sr, sB_s, ud_eq, ud_ne, ud_ud, ud_sr, uB_s, Int.add_zero, Int.reduceAdd])
    refine v_iinc2 (n := 58) xB_22 dX3_copyFrom_55 rfl (by first | omega | (simp only [sA_same, sA_s, ud_s, Int.reduceEq, if_true, if_false, ite_true, ite_false, ↓reduceIte, and_true, true_and, eq_self, Int.add_zero, Int.reduceAdd]; omega) | (simp (disch := omega) only [sA_same, sA_ne, ud_eq, ud_ne, Int.add_zero, Int.reduceAdd]; omega)) rfl ?_
    refine v_goto (t := 2) xB_22 dX3_copyFrom_58 (by decide) rfl ?_
    refine ih _ ?_
    (try simp (disch := omega) only [sA_same, sA_ne, sA_sA, sA_sr, sB_s, ud_eq, ud_ne, ud_ud, ud_sr, uB_s, Int.add_zero, Int.reduceAdd])
    exact c3q (by funext j'; simp only [ud_s, ivl]; (repeat' split) <;> first | rfl | omega | (exfalso; omega) | (congr 1; omega)) (by funext j'; simp only [ud_s, ivl]; (repeat' split) <;> first | rfl | omega | (exfalso; omega) | (congr 1; omega)) (by funext j'; simp only [ud_s, ivl]; (repeat' split) <;> first | rfl | omega | (exfalso; omega) | (congr 1; omega))
  · rw [ivl_0 (by omega), ivl_0 (by omega), ivl_0 (by omega), sA_id, sA_id, sA_id]
def cp4 (g f : Int → Int) : Int → Int := fun j => if 0 ≤ j ∧ j < 0 + 4 then g (0 + (j - 0)) else f j
def tc3 (g f : Int → Int) : Int → Int := ud (ud (ud f 0 (g 0)) 1 (g 1)) 2 (g 2)
theorem cp4_at {g f : Int → Int} {j : Int} (h : 0 ≤ j ∧ j < 4) : cp4 g f j = g j := by
  unfold cp4; rw [if_pos (by omega), show 0 + (j - 0) = j by omega]
theorem tc3_at (g f : Int → Int) : tc3 g f 0 = g 0 ∧ tc3 g f 1 = g 1 ∧ tc3 g f 2 = g 2 := by
  unfold tc3
  simp (disch := omega) only [ud_eq, ud_ne, and_self]
set_option maxHeartbeats 1000000 in
theorem k_tcopyi {d : Nat} {t : Int} {m : PM} {dy : List (Nat × Nat)} {L : Nat} {Q : Option PV → PS → Prop} (hd : 1 ≤ d) (ht : 0 ≤ t ∧ t < 5) (o1 : Q (none) (setA (setA m (43 + 2 * t) (tc3 (m (17 + 2 * t)) (m (43 + 2 * t)))) (44 + 2 * t) (cp4 (m (18 + 2 * t)) (m (44 + 2 * t))), (none, (dy, L)))) : C d 63 [.inr (.inr (43 + 2 * t)), .inr (.inr (17 + 2 * t))] (m, (none, (dy, L))) Q := by
  refine C_go (k := 0) hd xL_63 (fun d hd => ?_)
  show V d 63 (0, ([some (.inr (.inr (43 + 2 * t))), some (.inr (.inr (17 + 2 * t)))], ([], (m, (none, (dy, L)))))) Q
  refine v_aload_n (n := 1) xB_63 dX9_copyFrom_0 rfl rfl ?_
  refine v_aload_n (n := 2) xB_63 dX9_copyFrom_1 rfl rfl ?_
  refine v_gf_i (n := 5) (kz := 0) xB_63 dX9_copyFrom_2 xO_63 fl_9_15 fg_9_0 rfl (sh_T (by first | omega | (simp only [sA_same, sA_s, ud_s, Int.reduceEq, if_true, if_false, ite_true, ite_false, ↓reduceIte, and_true, true_and, eq_self, Int.add_zero, Int.reduceAdd]; omega) | (simp (disch := omega) only [sA_same, sA_ne, ud_eq, ud_ne, Int.add_zero, Int.reduceAdd]; omega)) _ _ _) rfl rfl ?_
  refine v_pf_i (n := 8) (kz := 0) xB_63 dX9_copyFrom_5 xO_63 fl_9_15 fg_9_0 (Or.inl fn_9_0) (sh_U (by first | omega | (simp only [sA_same, sA_s, ud_s, Int.reduceEq, if_true, if_false, ite_true, ite_false, ↓reduceIte, and_true, true_and, eq_self, Int.add_zero, Int.reduceAdd]; omega) | (simp (disch := omega) only [sA_same, sA_ne, ud_eq, ud_ne, Int.add_zero, Int.reduceAdd]; omega)) _ _ _) (by first | omega | (simp only [sA_same, sA_s, ud_s, Int.reduceEq, if_true, if_false, ite_true, ite_false, ↓reduceIte, and_true, true_and, eq_self, Int.add_zero, Int.reduceAdd]; omega) | (simp (disch := omega) only [sA_same, sA_ne, ud_eq, ud_ne, Int.add_zero, Int.reduceAdd]; omega)) rfl rfl ?_
  (try simp (disch := omega) only [sA_same, sA_ne, sA_sA, sA_sr, sB_s, ud_eq, ud_ne, ud_ud, ud_sr, uB_s, Int.add_zero, Int.reduceAdd])
  refine v_aload_n (n := 9) xB_63 dX9_copyFrom_8 rfl rfl ?_
  refine v_aload_n (n := 10) xB_63 dX9_copyFrom_9 rfl rfl ?_
  refine v_gf_i (n := 13) (kz := 1) xB_63 dX9_copyFrom_10 xO_63 fl_9_19 fg_9_1 rfl (sh_T (by first | omega | (simp only [sA_same, sA_s, ud_s, Int.reduceEq, if_true, if_false, ite_true, ite_false, ↓reduceIte, and_true, true_and, eq_self, Int.add_zero, Int.reduceAdd]; omega) | (simp (disch := omega) only [sA_same, sA_ne, ud_eq, ud_ne, Int.add_zero, Int.reduceAdd]; omega)) _ _ _) rfl rfl ?_
  refine v_pf_i (n := 16) (kz := 1) xB_63 dX9_copyFrom_13 xO_63 fl_9_19 fg_9_1 (Or.inl fn_9_1) (sh_U (by first | omega | (simp only [sA_same, sA_s, ud_s, Int.reduceEq, if_true, if_false, ite_true, ite_false, ↓reduceIte, and_true, true_and, eq_self, Int.add_zero, Int.reduceAdd]; omega) | (simp (disch := omega) only [sA_same, sA_ne, ud_eq, ud_ne, Int.add_zero, Int.reduceAdd]; omega)) _ _ _) (by first | omega | (simp only [sA_same, sA_s, ud_s, Int.reduceEq, if_true, if_false, ite_true, ite_false, ↓reduceIte, and_true, true_and, eq_self, Int.add_zero, Int.reduceAdd]; omega) | (simp (disch := omega) only [sA_same, sA_ne, ud_eq, ud_ne, Int.add_zero, Int.reduceAdd]; omega)) rfl rfl ?_
  (try simp (disch := omega) only [sA_same, sA_ne, sA_sA, sA_sr, sB_s, ud_eq, ud_ne, ud_ud, ud_sr, uB_s, Int.add_zero, Int.reduceAdd])
  refine v_aload_n (n := 17) xB_63 dX9_copyFrom_16 rfl rfl ?_
  refine v_aload_n (n := 18) xB_63 dX9_copyFrom_17 rfl rfl ?_
  refine v_gf_i (n := 21) (kz := 2) xB_63 dX9_copyFrom_18 xO_63 fl_9_22 fg_9_2 rfl (sh_T (by first | omega | (simp only [sA_same, sA_s, ud_s, Int.reduceEq, if_true, if_false, ite_true, ite_false, ↓reduceIte, and_true, true_and, eq_self, Int.add_zero, Int.reduceAdd]; omega) | (simp (disch := omega) only [sA_same, sA_ne, ud_eq, ud_ne, Int.add_zero, Int.reduceAdd]; omega)) _ _ _) rfl rfl ?_
  refine v_pf_i (n := 24) (kz := 2) xB_63 dX9_copyFrom_21 xO_63 fl_9_22 fg_9_2 (Or.inl fn_9_2) (sh_U (by first | omega | (simp only [sA_same, sA_s, ud_s, Int.reduceEq, if_true, if_false, ite_true, ite_false, ↓reduceIte, and_true, true_and, eq_self, Int.add_zero, Int.reduceAdd]; omega) | (simp (disch := omega) only [sA_same, sA_ne, ud_eq, ud_ne, Int.add_zero, Int.reduceAdd]; omega)) _ _ _) (by first | omega | (simp only [sA_same, sA_s, ud_s, Int.reduceEq, if_true, if_false, ite_true, ite_false, ↓reduceIte, and_true, true_and, eq_self, Int.add_zero, Int.reduceAdd]; omega) | (simp (disch := omega) only [sA_same, sA_ne, ud_eq, ud_ne, Int.add_zero, Int.reduceAdd]; omega)) rfl rfl ?_
  (try simp (disch := omega) only [sA_same, sA_ne, sA_sA, sA_sr, sB_s, ud_eq, ud_ne, ud_ud, ud_sr, uB_s, Int.add_zero, Int.reduceAdd])
  refine v_aload_n (n := 25) xB_63 dX9_copyFrom_24 rfl rfl ?_
  refine v_gf_s (n := 28) (kz := 3) xB_63 dX9_copyFrom_25 xO_63 fl_9_9 fg_9_3 (sh_T (by first | omega | (simp only [sA_same, sA_s, ud_s, Int.reduceEq, if_true, if_false, ite_true, ite_false, ↓reduceIte, and_true, true_and, eq_self, Int.add_zero, Int.reduceAdd]; omega) | (simp (disch := omega) only [sA_same, sA_ne, ud_eq, ud_ne, Int.add_zero, Int.reduceAdd]; omega)) _ _ _) rfl (st_TP (by first | omega | (simp only [sA_same, sA_s, ud_s, Int.reduceEq, if_true, if_false, ite_true, ite_false, ↓reduceIte, and_true, true_and, eq_self, Int.add_zero, Int.reduceAdd]; omega) | (simp (disch := omega) only [sA_same, sA_ne, ud_eq, ud_ne, Int.add_zero, Int.reduceAdd]; omega))) rfl ?_
  refine v_iconst (n := 29) xB_63 dX9_copyFrom_28 ⟨by decide, by decide⟩ rfl ?_
  refine v_aload_n (n := 30) xB_63 dX9_copyFrom_29 rfl rfl ?_
  refine v_gf_s (n := 33) (kz := 3) xB_63 dX9_copyFrom_30 xO_63 fl_9_9 fg_9_3 (sh_U (by first | omega | (simp only [sA_same, sA_s, ud_s, Int.reduceEq, if_true, if_false, ite_true, ite_false, ↓reduceIte, and_true, true_and, eq_self, Int.add_zero, Int.reduceAdd]; omega) | (simp (disch := omega) only [sA_same, sA_ne, ud_eq, ud_ne, Int.add_zero, Int.reduceAdd]; omega)) _ _ _) rfl (st_UP (by first | omega | (simp only [sA_same, sA_s, ud_s, Int.reduceEq, if_true, if_false, ite_true, ite_false, ↓reduceIte, and_true, true_and, eq_self, Int.add_zero, Int.reduceAdd]; omega) | (simp (disch := omega) only [sA_same, sA_ne, ud_eq, ud_ne, Int.add_zero, Int.reduceAdd]; omega))) rfl ?_
  refine v_iconst (n := 34) xB_63 dX9_copyFrom_33 ⟨by decide, by decide⟩ rfl ?_
  refine v_iconst (n := 35) xB_63 dX9_copyFrom_34 ⟨by decide, by decide⟩ rfl ?_
  refine v_acp (tb := 0) (n := 38) xB_63 dX9_copyFrom_35 xO_63 sp_9_31 (sh_TP (by first | omega | (simp only [sA_same, sA_s, ud_s, Int.reduceEq, if_true, if_false, ite_true, ite_false, ↓reduceIte, and_true, true_and, eq_self, Int.add_zero, Int.reduceAdd]; omega) | (simp (disch := omega) only [sA_same, sA_ne, ud_eq, ud_ne, Int.add_zero, Int.reduceAdd]; omega)) _ _ _) (sh_UP (by first | omega | (simp only [sA_same, sA_s, ud_s, Int.reduceEq, if_true, if_false, ite_true, ite_false, ↓reduceIte, and_true, true_and, eq_self, Int.add_zero, Int.reduceAdd]; omega) | (simp (disch := omega) only [sA_same, sA_ne, ud_eq, ud_ne, Int.add_zero, Int.reduceAdd]; omega)) _ _ _) (by decide) (by first | omega | (simp only [sA_same, sA_s, ud_s, Int.reduceEq, if_true, if_false, ite_true, ite_false, ↓reduceIte, and_true, true_and, eq_self, Int.add_zero, Int.reduceAdd]; omega) | (simp (disch := omega) only [sA_same, sA_ne, ud_eq, ud_ne, Int.add_zero, Int.reduceAdd]; omega)) rfl rfl ?_
  refine v_return xB_63 dX9_copyFrom_38 xK_63 ?_
  (try simp (disch := omega) only [sA_same, sA_ne, sA_sA, sA_sr, sB_s, ud_eq, ud_ne, ud_ud, ud_sr, uB_s, Int.add_zero, Int.reduceAdd])
  exact o1
set_option maxHeartbeats 1000000 in
theorem k_tcopyu {d : Nat} {t : Int} {m : PM} {dy : List (Nat × Nat)} {L : Nat} {Q : Option PV → PS → Prop} (hd : 1 ≤ d) (ht : 0 ≤ t ∧ t < 5) (o1 : Q (none) (setA (setA m (17 + 2 * t) (tc3 (m (43 + 2 * t)) (m (17 + 2 * t)))) (18 + 2 * t) (cp4 (m (44 + 2 * t)) (m (18 + 2 * t))), (none, (dy, L)))) : C d 63 [.inr (.inr (17 + 2 * t)), .inr (.inr (43 + 2 * t))] (m, (none, (dy, L))) Q := by
  refine C_go (k := 0) hd xL_63 (fun d hd => ?_)
  show V d 63 (0, ([some (.inr (.inr (17 + 2 * t))), some (.inr (.inr (43 + 2 * t)))], ([], (m, (none, (dy, L)))))) Q
  refine v_aload_n (n := 1) xB_63 dX9_copyFrom_0 rfl rfl ?_
  refine v_aload_n (n := 2) xB_63 dX9_copyFrom_1 rfl rfl ?_
  refine v_gf_i (n := 5) (kz := 0) xB_63 dX9_copyFrom_2 xO_63 fl_9_15 fg_9_0 rfl (sh_U (by first | omega | (simp only [sA_same, sA_s, ud_s, Int.reduceEq, if_true, if_false, ite_true, ite_false, ↓reduceIte, and_true, true_and, eq_self, Int.add_zero, Int.reduceAdd]; omega) | (simp (disch := omega) only [sA_same, sA_ne, ud_eq, ud_ne, Int.add_zero, Int.reduceAdd]; omega)) _ _ _) rfl rfl ?_
  refine v_pf_i (n := 8) (kz := 0) xB_63 dX9_copyFrom_5 xO_63 fl_9_15 fg_9_0 (Or.inl fn_9_0) (sh_T (by first | omega | (simp only [sA_same, sA_s, ud_s, Int.reduceEq, if_true, if_false, ite_true, ite_false, ↓reduceIte, and_true, true_and, eq_self, Int.add_zero, Int.reduceAdd]; omega) | (simp (disch := omega) only [sA_same, sA_ne, ud_eq, ud_ne, Int.add_zero, Int.reduceAdd]; omega)) _ _ _) (by first | omega | (simp only [sA_same, sA_s, ud_s, Int.reduceEq, if_true, if_false, ite_true, ite_false, ↓reduceIte, and_true, true_and, eq_self, Int.add_zero, Int.reduceAdd]; omega) | (simp (disch := omega) only [sA_same, sA_ne, ud_eq, ud_ne, Int.add_zero, Int.reduceAdd]; omega)) rfl rfl ?_
  (try simp (disch := omega) only [sA_same, sA_ne, sA_sA, sA_sr, sB_s, ud_eq, ud_ne, ud_ud, ud_sr, uB_s, Int.add_zero, Int.reduceAdd])
  refine v_aload_n (n := 9) xB_63 dX9_copyFrom_8 rfl rfl ?_
  refine v_aload_n (n := 10) xB_63 dX9_copyFrom_9 rfl rfl ?_
  refine v_gf_i (n := 13) (kz := 1) xB_63 dX9_copyFrom_10 xO_63 fl_9_19 fg_9_1 rfl (sh_U (by first | omega | (simp only [sA_same, sA_s, ud_s, Int.reduceEq, if_true, if_false, ite_true, ite_false, ↓reduceIte, and_true, true_and, eq_self, Int.add_zero, Int.reduceAdd]; omega) | (simp (disch := omega) only [sA_same, sA_ne, ud_eq, ud_ne, Int.add_zero, Int.reduceAdd]; omega)) _ _ _) rfl rfl ?_
  refine v_pf_i (n := 16) (kz := 1) xB_63 dX9_copyFrom_13 xO_63 fl_9_19 fg_9_1 (Or.inl fn_9_1) (sh_T (by first | omega | (simp only [sA_same, sA_s, ud_s, Int.reduceEq, if_true, if_false, ite_true, ite_false, ↓reduceIte, and_true, true_and, eq_self, Int.add_zero, Int.reduceAdd]; omega) | (simp (disch := omega) only [sA_same, sA_ne, ud_eq, ud_ne, Int.add_zero, Int.reduceAdd]; omega)) _ _ _) (by first | omega | (simp only [sA_same, sA_s, ud_s, Int.reduceEq, if_true, if_false, ite_true, ite_false, ↓reduceIte, and_true, true_and, eq_self, Int.add_zero, Int.reduceAdd]; omega) | (simp (disch := omega) only [sA_same, sA_ne, ud_eq, ud_ne, Int.add_zero, Int.reduceAdd]; omega)) rfl rfl ?_
  (try simp (disch := omega) only [sA_same, sA_ne, sA_sA, sA_sr, sB_s, ud_eq, ud_ne, ud_ud, ud_sr, uB_s, Int.add_zero, Int.reduceAdd])
  refine v_aload_n (n := 17) xB_63 dX9_copyFrom_16 rfl rfl ?_
  refine v_aload_n (n := 18) xB_63 dX9_copyFrom_17 rfl rfl ?_
  refine v_gf_i (n := 21) (kz := 2) xB_63 dX9_copyFrom_18 xO_63 fl_9_22 fg_9_2 rfl (sh_U (by first | omega | (simp only [sA_same, sA_s, ud_s, Int.reduceEq, if_true, if_false, ite_true, ite_false, ↓reduceIte, and_true, true_and, eq_self, Int.add_zero, Int.reduceAdd]; omega) | (simp (disch := omega) only [sA_same, sA_ne, ud_eq, ud_ne, Int.add_zero, Int.reduceAdd]; omega)) _ _ _) rfl rfl ?_
  refine v_pf_i (n := 24) (kz := 2) xB_63 dX9_copyFrom_21 xO_63 fl_9_22 fg_9_2 (Or.inl fn_9_2) (sh_T (by first | omega | (simp only [sA_same, sA_s, ud_s, Int.reduceEq, if_true, if_false, ite_true, ite_false, ↓reduceIte, and_true, true_and, eq_self, Int.add_zero, Int.reduceAdd]; omega) | (simp (disch := omega) only [sA_same, sA_ne, ud_eq, ud_ne, Int.add_zero, Int.reduceAdd]; omega)) _ _ _) (by first | omega | (simp only [sA_same, sA_s, ud_s, Int.reduceEq, if_true, if_false, ite_true, ite_false, ↓reduceIte, and_true, true_and, eq_self, Int.add_zero, Int.reduceAdd]; omega) | (simp (disch := omega) only [sA_same, sA_ne, ud_eq, ud_ne, Int.add_zero, Int.reduceAdd]; omega)) rfl rfl ?_
  (try simp (disch := omega) only [sA_same, sA_ne, sA_sA, sA_sr, sB_s, ud_eq, ud_ne, ud_ud, ud_sr, uB_s, Int.add_zero, Int.reduceAdd])
  refine v_aload_n (n := 25) xB_63 dX9_copyFrom_24 rfl rfl ?_
  refine v_gf_s (n := 28) (kz := 3) xB_63 dX9_copyFrom_25 xO_63 fl_9_9 fg_9_3 (sh_U (by first | omega | (simp only [sA_same, sA_s, ud_s, Int.reduceEq, if_true, if_false, ite_true, ite_false, ↓reduceIte, and_true, true_and, eq_self, Int.add_zero, Int.reduceAdd]; omega) | (simp (disch := omega) only [sA_same, sA_ne, ud_eq, ud_ne, Int.add_zero, Int.reduceAdd]; omega)) _ _ _) rfl (st_UP (by first | omega | (simp only [sA_same, sA_s, ud_s, Int.reduceEq, if_true, if_false, ite_true, ite_false, ↓reduceIte, and_true, true_and, eq_self, Int.add_zero, Int.reduceAdd]; omega) | (simp (disch := omega) only [sA_same, sA_ne, ud_eq, ud_ne, Int.add_zero, Int.reduceAdd]; omega))) rfl ?_
  refine v_iconst (n := 29) xB_63 dX9_copyFrom_28 ⟨by decide, by decide⟩ rfl ?_
  refine v_aload_n (n := 30) xB_63 dX9_copyFrom_29 rfl rfl ?_
  refine v_gf_s (n := 33) (kz := 3) xB_63 dX9_copyFrom_30 xO_63 fl_9_9 fg_9_3 (sh_T (by first | omega | (simp only [sA_same, sA_s, ud_s, Int.reduceEq, if_true, if_false, ite_true, ite_false, ↓reduceIte, and_true, true_and, eq_self, Int.add_zero, Int.reduceAdd]; omega) | (simp (disch := omega) only [sA_same, sA_ne, ud_eq, ud_ne, Int.add_zero, Int.reduceAdd]; omega)) _ _ _) rfl (st_TP (by first | omega | (simp only [sA_same, sA_s, ud_s, Int.reduceEq, if_true, if_false, ite_true, ite_false, ↓reduceIte, and_true, true_and, eq_self, Int.add_zero, Int.reduceAdd]; omega) | (simp (disch := omega) only [sA_same, sA_ne, ud_eq, ud_ne, Int.add_zero, Int.reduceAdd]; omega))) rfl ?_
  refine v_iconst (n := 34) xB_63 dX9_copyFrom_33 ⟨by decide, by decide⟩ rfl ?_
  refine v_iconst (n := 35) xB_63 dX9_copyFrom_34 ⟨by decide, by decide⟩ rfl ?_
  refine v_acp (tb := 0) (n := 38) xB_63 dX9_copyFrom_35 xO_63 sp_9_31 (sh_UP (by first | omega | (simp only [sA_same, sA_s, ud_s, Int.reduceEq, if_true, if_false, ite_true, ite_false, ↓reduceIte, and_true, true_and, eq_self, Int.add_zero, Int.reduceAdd]; omega) | (simp (disch := omega) only [sA_same, sA_ne, ud_eq, ud_ne, Int.add_zero, Int.reduceAdd]; omega)) _ _ _) (sh_TP (by first | omega | (simp only [sA_same, sA_s, ud_s, Int.reduceEq, if_true, if_false, ite_true, ite_false, ↓reduceIte, and_true, true_and, eq_self, Int.add_zero, Int.reduceAdd]; omega) | (simp (disch := omega) only [sA_same, sA_ne, ud_eq, ud_ne, Int.add_zero, Int.reduceAdd]; omega)) _ _ _) (by decide) (by first | omega | (simp only [sA_same, sA_s, ud_s, Int.reduceEq, if_true, if_false, ite_true, ite_false, ↓reduceIte, and_true, true_and, eq_self, Int.add_zero, Int.reduceAdd]; omega) | (simp (disch := omega) only [sA_same, sA_ne, ud_eq, ud_ne, Int.add_zero, Int.reduceAdd]; omega)) rfl rfl ?_
  refine v_return xB_63 dX9_copyFrom_38 xK_63 ?_
  (try simp (disch := omega) only [sA_same, sA_ne, sA_sA, sA_sr, sB_s, ud_eq, ud_ne, ud_ud, ud_sr, uB_s, Int.add_zero, Int.reduceAdd])
  exact o1
def NC (m m' : PM) (q q2 : Int) : Prop := m' q 3 = m q2 3 ∧ (∀ i, 0 ≤ i → i < m q2 3 → m' (q + 1) i = m (q2 + 1) i ∧ m' (q + 2) i = m (q2 + 2) i ∧ m' (q + 3) i = m (q2 + 3) i)
def RC (m m' : PM) (D S : Int) : Prop := (∀ a : Int, a < 1 + D ∨ 26 + D < a → m' a = m a) ∧ m' (2 + D) 1 = m (2 + S) 1 ∧ m' (3 + D) = cp12 (m (3 + S)) (m (3 + D)) ∧ m' (1 + D) 2 = m (1 + S) 2 ∧ (∀ t, 0 ≤ t → t < 5 → m' (17 + D + 2 * t) = tc3 (m (17 + S + 2 * t)) (m (17 + D + 2 * t)) ∧ m' (18 + D + 2 * t) = cp4 (m (18 + S + 2 * t)) (m (18 + D + 2 * t))) ∧ NC m m' (5 + D) (5 + S) ∧ NC m m' (9 + D) (9 + S) ∧ NC m m' (13 + D) (13 + S)
set_option maxHeartbeats 1000000 in
theorem k_rcopyi {d : Nat}  {m : PM} {dy : List (Nat × Nat)} {L : Nat} {Q : Option PV → PS → Prop} (hd : 2 ≤ d) (h5 : 0 ≤ m 5 3 ∧ m 5 3 ≤ 5) (h9 : 0 ≤ m 9 3 ∧ m 9 3 ≤ 6) (h13 : 0 ≤ m 13 3 ∧ m 13 3 ≤ 8) (o1 : ∀ m' : PM, RC m m' 26 0 → Q (none) (m', (none, (dy, L)))) : C d 53 [.inr (.inr 27), .inr (.inr 1)] (m, (none, (dy, L))) Q := by
  refine C_go (k := 1) hd xL_53 (fun d hd => ?_)
  show V d 53 (0, ([some (.inr (.inr 27)), some (.inr (.inr 1)), none], ([], (m, (none, (dy, L)))))) Q
  refine v_aload_n (n := 1) xB_53 dX6_copyFrom_0 rfl rfl ?_
  refine v_gf_s (n := 4) (kz := 0) xB_53 dX6_copyFrom_1 xO_53 fl_6_12 fg_6_0 (sh_27 _ _ _) rfl st_27_0 rfl ?_
  refine v_aload_n (n := 5) xB_53 dX6_copyFrom_4 rfl rfl ?_
  refine v_gf_s (n := 8) (kz := 0) xB_53 dX6_copyFrom_5 xO_53 fl_6_12 fg_6_0 (sh_1 _ _ _) rfl st_1_0 rfl ?_
  refine v_call_v (n := 11) xB_53 dX6_copyFrom_8 xO_53 iv_6_40 rfl (sh_28 _ _ _) rfl rfl rfl ?_
  refine k_pcopy (by omega) (Or.inr (Or.inl rfl)) (Or.inl rfl) ?_
  (try simp (disch := omega) only [sA_same, sA_ne, sA_sA, sA_sr, sB_s, ud_eq, ud_ne, ud_ud, ud_sr, uB_s, Int.add_zero, Int.reduceAdd])
  refine v_iconst (n := 12) xB_53 dX6_copyFrom_11 ⟨by decide, by decide⟩ rfl ?_
  refine v_istore_n2 (n := 13) xB_53 dX6_copyFrom_12 rfl rfl ?_
  refine lp_up (F := fun (k : Int) (m' : PM) => V d 53 (13, ([some (.inr (.inr 27)), some (.inr (.inr 1)), some (.inl (k))], ([], (m', (none, (dy, L)))))) Q) (E := fun (k : Int) (m' : PM) => (∀ a : Int, a < 43 ∨ 52 < a → (m') a = (setA (setA m 28 (ud (m 28) 1 (m 2 1))) 29 (cp12 (m 3) (m 29))) a) ∧ (∀ t, 0 ≤ t → t < k → (m') (43 + 2 * t) = tc3 (m (17 + 2 * t)) (m (43 + 2 * t)) ∧ (m') (44 + 2 * t) = cp4 (m (18 + 2 * t)) (m (44 + 2 * t))) ∧ (∀ t, k ≤ t → t < 5 → (m') (43 + 2 * t) = m (43 + 2 * t) ∧ (m') (44 + 2 * t) = m (44 + 2 * t))) (a := 0) (b := 5) ?_ ?_ (0) (_) (by first | omega | (simp only [sA_same, sA_s, ud_s, Int.reduceEq, if_true, if_false, ite_true, ite_false, ↓reduceIte, and_true, true_and, eq_self, Int.add_zero, Int.reduceAdd]; omega) | (simp (disch := omega) only [sA_same, sA_ne, ud_eq, ud_ne, Int.add_zero, Int.reduceAdd]; omega)) (by first | omega | (simp only [sA_same, sA_s, ud_s, Int.reduceEq, if_true, if_false, ite_true, ite_false, ↓reduceIte, and_true, true_and, eq_self, Int.add_zero, Int.reduceAdd]; omega) | (simp (disch := omega) only [sA_same, sA_ne, ud_eq, ud_ne, Int.add_zero, Int.reduceAdd]; omega)) ?_
  · intro m' hm
    show V d 53 (13, ([some (.inr (.inr 27)), some (.inr (.inr 1)), some (.inl (5))], ([], (m', (none, (dy, L)))))) Q
    have hq5 : 0 ≤ m' 5 3 ∧ m' 5 3 ≤ (notN 5 : Int) := by rw [hm.1 5 (by omega)]; simp (disch := omega) only [sA_ne]; exact h5
    have hq9 : 0 ≤ m' 9 3 ∧ m' 9 3 ≤ (notN 9 : Int) := by rw [hm.1 9 (by omega)]; simp (disch := omega) only [sA_ne]; exact h9
    have hq13 : 0 ≤ m' 13 3 ∧ m' 13 3 ≤ (notN 13 : Int) := by rw [hm.1 13 (by omega)]; simp (disch := omega) only [sA_ne]; exact h13
    refine v_iload_n (n := 14) xB_53 dX6_copyFrom_13 rfl rfl ?_
    refine v_iconst (n := 15) xB_53 dX6_copyFrom_14 ⟨by decide, by decide⟩ rfl ?_
    refine v_ic_ge_y (t := 39) xB_53 dX6_copyFrom_15 (by decide) rfl (by first | omega | (simp only [sA_same, sA_s, ud_s, Int.reduceEq, if_true, if_false, ite_true, ite_false, ↓reduceIte, and_true, true_and, eq_self, Int.add_zero, Int.reduceAdd]; omega) | (simp (disch := omega) only [sA_same, sA_ne, ud_eq, ud_ne, Int.add_zero, Int.reduceAdd]; omega)) ?_
    refine v_aload_n (n := 40) xB_53 dX6_copyFrom_39 rfl rfl ?_
    refine v_aload_n (n := 41) xB_53 dX6_copyFrom_40 rfl rfl ?_
    refine v_gf_i (n := 44) (kz := 2) xB_53 dX6_copyFrom_41 xO_53 fl_6_47 fg_6_2 rfl (sh_1 _ _ _) rfl rfl ?_
    refine v_pf_i (n := 47) (kz := 2) xB_53 dX6_copyFrom_44 xO_53 fl_6_47 fg_6_2 (Or.inl fn_6_2) (sh_27 _ _ _) (by decide) rfl rfl ?_
    (try simp (disch := omega) only [sA_same, sA_ne, sA_sA, sA_sr, sB_s, ud_eq, ud_ne, ud_ud, ud_sr, uB_s, Int.add_zero, Int.reduceAdd])
    refine v_aload_n (n := 48) xB_53 dX6_copyFrom_47 rfl rfl ?_
    refine v_gf_s (n := 51) (kz := 3) xB_53 dX6_copyFrom_48 xO_53 fl_6_29 fg_6_3 (sh_27 _ _ _) rfl st_27_3 rfl ?_
    refine v_aload_n (n := 52) xB_53 dX6_copyFrom_51 rfl rfl ?_
    refine v_gf_s (n := 55) (kz := 3) xB_53 dX6_copyFrom_52 xO_53 fl_6_29 fg_6_3 (sh_1 _ _ _) rfl st_1_3 rfl ?_
    refine v_call_v (n := 58) xB_53 dX6_copyFrom_55 xO_53 iv_6_51 rfl (sh_31 _ _ _) rfl rfl rfl ?_
    refine k_ncopy (by omega) (by unfold notA; omega) (by unfold notA; omega) (by omega) (by decide) (by first | exact hq5 | (simp (disch := omega) only [sA_ne, ud_ne]; exact hq5)) ?_
    (try simp (disch := omega) only [sA_same, sA_ne, sA_sA, sA_sr, sB_s, ud_eq, ud_ne, ud_ud, ud_sr, uB_s, Int.add_zero, Int.reduceAdd])
    refine v_aload_n (n := 59) xB_53 dX6_copyFrom_58 rfl rfl ?_
    refine v_gf_s (n := 62) (kz := 4) xB_53 dX6_copyFrom_59 xO_53 fl_6_33 fg_6_4 (sh_27 _ _ _) rfl st_27_4 rfl ?_
    refine v_aload_n (n := 63) xB_53 dX6_copyFrom_62 rfl rfl ?_
    refine v_gf_s (n := 66) (kz := 4) xB_53 dX6_copyFrom_63 xO_53 fl_6_33 fg_6_4 (sh_1 _ _ _) rfl st_1_4 rfl ?_
    refine v_call_v (n := 69) xB_53 dX6_copyFrom_66 xO_53 iv_6_51 rfl (sh_35 _ _ _) rfl rfl rfl ?_
    refine k_ncopy (by omega) (by unfold notA; omega) (by unfold notA; omega) (by omega) (by decide) (by first | exact hq9 | (simp (disch := omega) only [sA_ne, ud_ne]; exact hq9)) ?_
    (try simp (disch := omega) only [sA_same, sA_ne, sA_sA, sA_sr, sB_s, ud_eq, ud_ne, ud_ud, ud_sr, uB_s, Int.add_zero, Int.reduceAdd])
    refine v_aload_n (n := 70) xB_53 dX6_copyFrom_69 rfl rfl ?_
    refine v_gf_s (n := 73) (kz := 5) xB_53 dX6_copyFrom_70 xO_53 fl_6_36 fg_6_5 (sh_27 _ _ _) rfl st_27_5 rfl ?_
    refine v_aload_n (n := 74) xB_53 dX6_copyFrom_73 rfl rfl ?_
    refine v_gf_s (n := 77) (kz := 5) xB_53 dX6_copyFrom_74 xO_53 fl_6_36 fg_6_5 (sh_1 _ _ _) rfl st_1_5 rfl ?_
    refine v_call_v (n := 80) xB_53 dX6_copyFrom_77 xO_53 iv_6_51 rfl (sh_39 _ _ _) rfl rfl rfl ?_
    refine k_ncopy (by omega) (by unfold notA; omega) (by unfold notA; omega) (by omega) (by decide) (by first | exact hq13 | (simp (disch := omega) only [sA_ne, ud_ne]; exact hq13)) ?_
    (try simp (disch := omega) only [sA_same, sA_ne, sA_sA, sA_sr, sB_s, ud_eq, ud_ne, ud_ud, ud_sr, uB_s, Int.add_zero, Int.reduceAdd])
    refine v_return xB_53 dX6_copyFrom_80 xK_53 ?_
    (try simp (disch := omega) only [sA_same, sA_ne, sA_sA, sA_sr, sB_s, ud_eq, ud_ne, ud_ud, ud_sr, uB_s, Int.add_zero, Int.reduceAdd])
    refine o1 _ ⟨fun a ha => ?_, ?_, ?_, ?_, fun t p q => ?_, ⟨?_, fun i p q => ?_⟩, ⟨?_, fun i p q => ?_⟩, ⟨?_, fun i p q => ?_⟩⟩
    · simp (disch := omega) only [sA_ne]; rw [hm.1 a (by omega)]; simp (disch := omega) only [sA_ne]
    · simp (disch := omega) only [sA_ne]; rw [hm.1 _ (by omega)]; simp (disch := omega) only [sA_ne, sA_same, ud_eq, Int.reduceAdd]
    · simp (disch := omega) only [sA_ne]; rw [hm.1 _ (by omega)]; simp (disch := omega) only [sA_ne, sA_same, Int.reduceAdd]
    · simp (disch := omega) only [sA_ne, sA_same, ud_eq, Int.reduceAdd]; rw [hm.1 _ (by omega)]; simp (disch := omega) only [sA_ne]
    · have := hm.2.1 t p q
      simp (disch := omega) only [sA_ne, Int.reduceAdd]
      exact this
    · simp (disch := omega) only [sA_ne, sA_same, ud_eq, Int.reduceAdd]; rw [hm.1 _ (by omega)]; simp (disch := omega) only [sA_ne]
    · simp (disch := omega) only [Int.reduceAdd] at q
      have e5 : m' 5 3 = m 5 3 := by rw [hm.1 _ (by omega)]; simp (disch := omega) only [sA_ne]
      simp (disch := omega) only [sA_ne, sA_same, Int.reduceAdd]
      rw [ivl_in p (by rw [e5]; exact q), ivl_in p (by rw [e5]; exact q), ivl_in p (by rw [e5]; exact q), hm.1 6 (by omega), hm.1 7 (by omega), hm.1 8 (by omega)]
      simp (disch := omega) only [sA_ne, and_self]
    · simp (disch := omega) only [sA_ne, sA_same, ud_eq, Int.reduceAdd]; rw [hm.1 _ (by omega)]; simp (disch := omega) only [sA_ne]
    · simp (disch := omega) only [Int.reduceAdd] at q
      have e9 : m' 9 3 = m 9 3 := by rw [hm.1 _ (by omega)]; simp (disch := omega) only [sA_ne]
      simp (disch := omega) only [sA_ne, sA_same, Int.reduceAdd]
      rw [ivl_in p (by rw [e9]; exact q), ivl_in p (by rw [e9]; exact q), ivl_in p (by rw [e9]; exact q), hm.1 10 (by omega), hm.1 11 (by omega), hm.1 12 (by omega)]
      simp (disch := omega) only [sA_ne, and_self]
    · simp (disch := omega) only [sA_ne, sA_same, ud_eq, Int.reduceAdd]; rw [hm.1 _ (by omega)]; simp (disch := omega) only [sA_ne]
    · simp (disch := omega) only [Int.reduceAdd] at q
      have e13 : m' 13 3 = m 13 3 := by rw [hm.1 _ (by omega)]; simp (disch := omega) only [sA_ne]
      simp (disch := omega) only [sA_ne, sA_same, Int.reduceAdd]
      rw [ivl_in p (by rw [e13]; exact q), ivl_in p (by rw [e13]; exact q), ivl_in p (by rw [e13]; exact q), hm.1 14 (by omega), hm.1 15 (by omega), hm.1 16 (by omega)]
      simp (disch := omega) only [sA_ne, and_self]
  · intro k m' h1 h2 hm ih
    show V d 53 (13, ([some (.inr (.inr 27)), some (.inr (.inr 1)), some (.inl (k))], ([], (m', (none, (dy, L)))))) Q
    refine v_iload_n (n := 14) xB_53 dX6_copyFrom_13 rfl rfl ?_
    refine v_iconst (n := 15) xB_53 dX6_copyFrom_14 ⟨by decide, by decide⟩ rfl ?_
    refine v_ic_ge_n (n := 18) xB_53 dX6_copyFrom_15 (by decide) rfl (by first | omega | (simp only [sA_same, sA_s, ud_s, Int.reduceEq, if_true, if_false, ite_true, ite_false, ↓reduceIte, and_true, true_and, eq_self, Int.add_zero, Int.reduceAdd]; omega) | (simp (disch := omega) only [sA_same, sA_ne, ud_eq, ud_ne, Int.add_zero, Int.reduceAdd]; omega)) ?_
    refine v_aload_n (n := 19) xB_53 dX6_copyFrom_18 rfl rfl ?_
    refine v_gf_s (n := 22) (kz := 1) xB_53 dX6_copyFrom_19 xO_53 fl_6_20 fg_6_1 (sh_27 _ _ _) rfl st_27_1 rfl ?_
    refine v_iload_n (n := 23) xB_53 dX6_copyFrom_22 rfl rfl ?_
    refine v_aald_s (n := 24) (lz := 5) xB_53 dX6_copyFrom_23 (sh_30 _ _ _) (by decide) rfl (by first | omega | (simp only [sA_same, sA_s, ud_s, Int.reduceEq, if_true, if_false, ite_true, ite_false, ↓reduceIte, and_true, true_and, eq_self, Int.add_zero, Int.reduceAdd]; omega) | (simp (disch := omega) only [sA_same, sA_ne, ud_eq, ud_ne, Int.add_zero, Int.reduceAdd]; omega)) (st_U (by omega)) rfl ?_
    refine v_aload_n (n := 25) xB_53 dX6_copyFrom_24 rfl rfl ?_
    refine v_gf_s (n := 28) (kz := 1) xB_53 dX6_copyFrom_25 xO_53 fl_6_20 fg_6_1 (sh_1 _ _ _) rfl st_1_1 rfl ?_
    refine v_iload_n (n := 29) xB_53 dX6_copyFrom_28 rfl rfl ?_
    refine v_aald_s (n := 30) (lz := 5) xB_53 dX6_copyFrom_29 (sh_4 _ _ _) (by decide) rfl (by first | omega | (simp only [sA_same, sA_s, ud_s, Int.reduceEq, if_true, if_false, ite_true, ite_false, ↓reduceIte, and_true, true_and, eq_self, Int.add_zero, Int.reduceAdd]; omega) | (simp (disch := omega) only [sA_same, sA_ne, ud_eq, ud_ne, Int.add_zero, Int.reduceAdd]; omega)) (st_T (by omega)) rfl ?_
    refine v_call_v (n := 33) xB_53 dX6_copyFrom_30 xO_53 iv_6_44 rfl (sh_U (by first | omega | (simp only [sA_same, sA_s, ud_s, Int.reduceEq, if_true, if_false, ite_true, ite_false, ↓reduceIte, and_true, true_and, eq_self, Int.add_zero, Int.reduceAdd]; omega) | (simp (disch := omega) only [sA_same, sA_ne, ud_eq, ud_ne, Int.add_zero, Int.reduceAdd]; omega)) _ _ _) rfl rfl rfl ?_
    refine k_tcopyi (by omega) (by first | omega | (simp only [sA_same, sA_s, ud_s, Int.reduceEq, if_true, if_false, ite_true, ite_false, ↓reduceIte, and_true, true_and, eq_self, Int.add_zero, Int.reduceAdd]; omega) | (simp (disch := omega) only [sA_same, sA_ne, ud_eq, ud_ne, Int.add_zero, Int.reduceAdd]; omega)) ?_
    (try simp (disch := omega) only [sA_same, sA_ne, sA_sA, sA_sr, sB_s, ud_eq, ud_ne, ud_ud, ud_sr, uB_s, Int.add_zero, Int.reduceAdd])
    refine v_iinc2 (n := 36) xB_53 dX6_copyFrom_33 rfl (by first | omega | (simp only [sA_same, sA_s, ud_s, Int.reduceEq, if_true, if_false, ite_true, ite_false, ↓reduceIte, and_true, true_and, eq_self, Int.add_zero, Int.reduceAdd]; omega) | (simp (disch := omega) only [sA_same, sA_ne, ud_eq, ud_ne, Int.add_zero, Int.reduceAdd]; omega)) rfl ?_
    refine v_goto (t := 13) xB_53 dX6_copyFrom_36 (by decide) rfl ?_
    refine ih _ ⟨fun a ha => ?_, fun t p q => ?_, fun t p q => ?_⟩
    · simp (disch := omega) only [sA_ne]; exact hm.1 a ha
    · have w1 : m' (17 + 2 * k) = m (17 + 2 * k) := by rw [hm.1 _ (by omega)]; simp (disch := omega) only [sA_ne]
      have w2 : m' (18 + 2 * k) = m (18 + 2 * k) := by rw [hm.1 _ (by omega)]; simp (disch := omega) only [sA_ne]
      obtain ⟨w3, w4⟩ := hm.2.2 k (by omega) (by omega)
      by_cases htk : t = k
      · subst htk
        simp (disch := omega) only [sA_ne, sA_same]
        rw [w1, w2, w3, w4]
        exact ⟨rfl, rfl⟩
      · simp (disch := omega) only [sA_ne]
        exact hm.2.1 t p (by omega)
    · simp (disch := omega) only [sA_ne]
      exact hm.2.2 t (by omega) q
  · exact ⟨fun a ha => rfl, fun t p q => by omega, fun t p q => by constructor <;> simp (disch := omega) only [sA_ne]⟩
set_option maxHeartbeats 1000000 in
theorem k_rcopyu {d : Nat}  {m : PM} {dy : List (Nat × Nat)} {L : Nat} {Q : Option PV → PS → Prop} (hd : 2 ≤ d) (h5 : 0 ≤ m 31 3 ∧ m 31 3 ≤ 5) (h9 : 0 ≤ m 35 3 ∧ m 35 3 ≤ 6) (h13 : 0 ≤ m 39 3 ∧ m 39 3 ≤ 8) (o1 : ∀ m' : PM, RC m m' 0 26 → Q (none) (m', (none, (dy, L)))) : C d 53 [.inr (.inr 1), .inr (.inr 27)] (m, (none, (dy, L))) Q := by
  refine C_go (k := 1) hd xL_53 (fun d hd => ?_)
  show V d 53 (0, ([some (.inr (.inr 1)), some (.inr (.inr 27)), none], ([], (m, (none, (dy, L)))))) Q
  refine v_aload_n (n := 1) xB_53 dX6_copyFrom_0 rfl rfl ?_
  refine v_gf_s (n := 4) (kz := 0) xB_53 dX6_copyFrom_1 xO_53 fl_6_12 fg_6_0 (sh_1 _ _ _) rfl st_1_0 rfl ?_
  refine v_aload_n (n := 5) xB_53 dX6_copyFrom_4 rfl rfl ?_
  refine v_gf_s (n := 8) (kz := 0) xB_53 dX6_copyFrom_5 xO_53 fl_6_12 fg_6_0 (sh_27 _ _ _) rfl st_27_0 rfl ?_
  refine v_call_v (n := 11) xB_53 dX6_copyFrom_8 xO_53 iv_6_40 rfl (sh_2 _ _ _) rfl rfl rfl ?_
  refine k_pcopy (by omega) (Or.inl rfl) (Or.inr (Or.inl rfl)) ?_
  (try simp (disch := omega) only [sA_same, sA_ne, sA_sA, sA_sr, sB_s, ud_eq, ud_ne, ud_ud, ud_sr, uB_s, Int.add_zero, Int.reduceAdd])
  refine v_iconst (n := 12) xB_53 dX6_copyFrom_11 ⟨by decide, by decide⟩ rfl ?_
  refine v_istore_n2 (n := 13) xB_53 dX6_copyFrom_12 rfl rfl ?_
  refine lp_up (F := fun (k : Int) (m' : PM) => V d 53 (13, ([some (.inr (.inr 1)), some (.inr (.inr 27)), some (.inl (k))], ([], (m', (none, (dy, L)))))) Q) (E := fun (k : Int) (m' : PM) => (∀ a : Int, a < 17 ∨ 26 < a → (m') a = (setA (setA m 2 (ud (m 2) 1 (m 28 1))) 3 (cp12 (m 29) (m 3))) a) ∧ (∀ t, 0 ≤ t → t < k → (m') (17 + 2 * t) = tc3 (m (43 + 2 * t)) (m (17 + 2 * t)) ∧ (m') (18 + 2 * t) = cp4 (m (44 + 2 * t)) (m (18 + 2 * t))) ∧ (∀ t, k ≤ t → t < 5 → (m') (17 + 2 * t) = m (17 + 2 * t) ∧ (m') (18 + 2 * t) = m (18 + 2 * t))) (a := 0) (b := 5) ?_ ?_ (0) (_) (by first | omega | (simp only [sA_same, sA_s, ud_s, Int.reduceEq, if_true, if_false, ite_true, ite_false, ↓reduceIte, and_true, true_and, eq_self, Int.add_zero, Int.reduceAdd]; omega) | (simp (disch := omega) only [sA_same, sA_ne, ud_eq, ud_ne, Int.add_zero, Int.reduceAdd]; omega)) (by first | omega | (simp only [sA_same, sA_s, ud_s, Int.reduceEq, if_true, if_false, ite_true, ite_false, ↓reduceIte, and_true, true_and, eq_self, Int.add_zero, Int.reduceAdd]; omega) | (simp (disch := omega) only [sA_same, sA_ne, ud_eq, ud_ne, Int.add_zero, Int.reduceAdd]; omega)) ?_
  · intro m' hm
    show V d 53 (13, ([some (.inr (.inr 1)), some (.inr (.inr 27)), some (.inl (5))], ([], (m', (none, (dy, L)))))) Q
    have hq5 : 0 ≤ m' 31 3 ∧ m' 31 3 ≤ (notN 31 : Int) := by rw [hm.1 31 (by omega)]; simp (disch := omega) only [sA_ne]; exact h5
    have hq9 : 0 ≤ m' 35 3 ∧ m' 35 3 ≤ (notN 35 : Int) := by rw [hm.1 35 (by omega)]; simp (disch := omega) only [sA_ne]; exact h9
    have hq13 : 0 ≤ m' 39 3 ∧ m' 39 3 ≤ (notN 39 : Int) := by rw [hm.1 39 (by omega)]; simp (disch := omega) only [sA_ne]; exact h13
    refine v_iload_n (n := 14) xB_53 dX6_copyFrom_13 rfl rfl ?_
    refine v_iconst (n := 15) xB_53 dX6_copyFrom_14 ⟨by decide, by decide⟩ rfl ?_
    refine v_ic_ge_y (t := 39) xB_53 dX6_copyFrom_15 (by decide) rfl (by first | omega | (simp only [sA_same, sA_s, ud_s, Int.reduceEq, if_true, if_false, ite_true, ite_false, ↓reduceIte, and_true, true_and, eq_self, Int.add_zero, Int.reduceAdd]; omega) | (simp (disch := omega) only [sA_same, sA_ne, ud_eq, ud_ne, Int.add_zero, Int.reduceAdd]; omega)) ?_
    refine v_aload_n (n := 40) xB_53 dX6_copyFrom_39 rfl rfl ?_
    refine v_aload_n (n := 41) xB_53 dX6_copyFrom_40 rfl rfl ?_
    refine v_gf_i (n := 44) (kz := 2) xB_53 dX6_copyFrom_41 xO_53 fl_6_47 fg_6_2 rfl (sh_27 _ _ _) rfl rfl ?_
    refine v_pf_i (n := 47) (kz := 2) xB_53 dX6_copyFrom_44 xO_53 fl_6_47 fg_6_2 (Or.inl fn_6_2) (sh_1 _ _ _) (by decide) rfl rfl ?_
    (try simp (disch := omega) only [sA_same, sA_ne, sA_sA, sA_sr, sB_s, ud_eq, ud_ne, ud_ud, ud_sr, uB_s, Int.add_zero, Int.reduceAdd])
    refine v_aload_n (n := 48) xB_53 dX6_copyFrom_47 rfl rfl ?_
    refine v_gf_s (n := 51) (kz := 3) xB_53 dX6_copyFrom_48 xO_53 fl_6_29 fg_6_3 (sh_1 _ _ _) rfl st_1_3 rfl ?_
    refine v_aload_n (n := 52) xB_53 dX6_copyFrom_51 rfl rfl ?_
    refine v_gf_s (n := 55) (kz := 3) xB_53 dX6_copyFrom_52 xO_53 fl_6_29 fg_6_3 (sh_27 _ _ _) rfl st_27_3 rfl ?_
    refine v_call_v (n := 58) xB_53 dX6_copyFrom_55 xO_53 iv_6_51 rfl (sh_5 _ _ _) rfl rfl rfl ?_
    refine k_ncopy (by omega) (by unfold notA; omega) (by unfold notA; omega) (by omega) (by decide) (by first | exact hq5 | (simp (disch := omega) only [sA_ne, ud_ne]; exact hq5)) ?_
    (try simp (disch := omega) only [sA_same, sA_ne, sA_sA, sA_sr, sB_s, ud_eq, ud_ne, ud_ud, ud_sr, uB_s, Int.add_zero, Int.reduceAdd])
    refine v_aload_n (n := 59) xB_53 dX6_copyFrom_58 rfl rfl ?_
    refine v_gf_s (n := 62) (kz := 4) xB_53 dX6_copyFrom_59 xO_53 fl_6_33 fg_6_4 (sh_1 _ _ _) rfl st_1_4 rfl ?_
    refine v_aload_n (n := 63) xB_53 dX6_copyFrom_62 rfl rfl ?_
    refine v_gf_s (n := 66) (kz := 4) xB_53 dX6_copyFrom_63 xO_53 fl_6_33 fg_6_4 (sh_27 _ _ _) rfl st_27_4 rfl ?_
    refine v_call_v (n := 69) xB_53 dX6_copyFrom_66 xO_53 iv_6_51 rfl (sh_9 _ _ _) rfl rfl rfl ?_
    refine k_ncopy (by omega) (by unfold notA; omega) (by unfold notA; omega) (by omega) (by decide) (by first | exact hq9 | (simp (disch := omega) only [sA_ne, ud_ne]; exact hq9)) ?_
    (try simp (disch := omega) only [sA_same, sA_ne, sA_sA, sA_sr, sB_s, ud_eq, ud_ne, ud_ud, ud_sr, uB_s, Int.add_zero, Int.reduceAdd])
    refine v_aload_n (n := 70) xB_53 dX6_copyFrom_69 rfl rfl ?_
    refine v_gf_s (n := 73) (kz := 5) xB_53 dX6_copyFrom_70 xO_53 fl_6_36 fg_6_5 (sh_1 _ _ _) rfl st_1_5 rfl ?_
    refine v_aload_n (n := 74) xB_53 dX6_copyFrom_73 rfl rfl ?_
    refine v_gf_s (n := 77) (kz := 5) xB_53 dX6_copyFrom_74 xO_53 fl_6_36 fg_6_5 (sh_27 _ _ _) rfl st_27_5 rfl ?_
    refine v_call_v (n := 80) xB_53 dX6_copyFrom_77 xO_53 iv_6_51 rfl (sh_13 _ _ _) rfl rfl rfl ?_
    refine k_ncopy (by omega) (by unfold notA; omega) (by unfold notA; omega) (by omega) (by decide) (by first | exact hq13 | (simp (disch := omega) only [sA_ne, ud_ne]; exact hq13)) ?_
    (try simp (disch := omega) only [sA_same, sA_ne, sA_sA, sA_sr, sB_s, ud_eq, ud_ne, ud_ud, ud_sr, uB_s, Int.add_zero, Int.reduceAdd])
    refine v_return xB_53 dX6_copyFrom_80 xK_53 ?_
    (try simp (disch := omega) only [sA_same, sA_ne, sA_sA, sA_sr, sB_s, ud_eq, ud_ne, ud_ud, ud_sr, uB_s, Int.add_zero, Int.reduceAdd])
    refine o1 _ ⟨fun a ha => ?_, ?_, ?_, ?_, fun t p q => ?_, ⟨?_, fun i p q => ?_⟩, ⟨?_, fun i p q => ?_⟩, ⟨?_, fun i p q => ?_⟩⟩
    · simp (disch := omega) only [sA_ne]; rw [hm.1 a (by omega)]; simp (disch := omega) only [sA_ne]
    · simp (disch := omega) only [sA_ne]; rw [hm.1 _ (by omega)]; simp (disch := omega) only [sA_ne, sA_same, ud_eq, Int.reduceAdd]
    · simp (disch := omega) only [sA_ne]; rw [hm.1 _ (by omega)]; simp (disch := omega) only [sA_ne, sA_same, Int.reduceAdd]
    · simp (disch := omega) only [sA_ne, sA_same, ud_eq, Int.reduceAdd]; rw [hm.1 _ (by omega)]; simp (disch := omega) only [sA_ne]
    · have := hm.2.1 t p q
      simp (disch := omega) only [sA_ne, Int.reduceAdd]
      exact this
    · simp (disch := omega) only [sA_ne, sA_same, ud_eq, Int.reduceAdd]; rw [hm.1 _ (by omega)]; simp (disch := omega) only [sA_ne]
    · simp (disch := omega) only [Int.reduceAdd] at q
      have e5 : m' 31 3 = m 31 3 := by rw [hm.1 _ (by omega)]; simp (disch := omega) only [sA_ne]
      simp (disch := omega) only [sA_ne, sA_same, Int.reduceAdd]
      rw [ivl_in p (by rw [e5]; exact q), ivl_in p (by rw [e5]; exact q), ivl_in p (by rw [e5]; exact q), hm.1 32 (by omega), hm.1 33 (by omega), hm.1 34 (by omega)]
      simp (disch := omega) only [sA_ne, and_self]
    · simp (disch := omega) only [sA_ne, sA_same, ud_eq, Int.reduceAdd]; rw [hm.1 _ (by omega)]; simp (disch := omega) only [sA_ne]
    · simp (disch := omega) only [Int.reduceAdd] at q
      have e9 : m' 35 3 = m 35 3 := by rw [hm.1 _ (by omega)]; simp (disch := omega) only [sA_ne]
      simp (disch := omega) only [sA_ne, sA_same, Int.reduceAdd]
      rw [ivl_in p (by rw [e9]; exact q), ivl_in p (by rw [e9]; exact q), ivl_in p (by rw [e9]; exact q), hm.1 36 (by omega), hm.1 37 (by omega), hm.1 38 (by omega)]
      simp (disch := omega) only [sA_ne, and_self]
    · simp (disch := omega) only [sA_ne, sA_same, ud_eq, Int.reduceAdd]; rw [hm.1 _ (by omega)]; simp (disch := omega) only [sA_ne]
    · simp (disch := omega) only [Int.reduceAdd] at q
      have e13 : m' 39 3 = m 39 3 := by rw [hm.1 _ (by omega)]; simp (disch := omega) only [sA_ne]
      simp (disch := omega) only [sA_ne, sA_same, Int.reduceAdd]
      rw [ivl_in p (by rw [e13]; exact q), ivl_in p (by rw [e13]; exact q), ivl_in p (by rw [e13]; exact q), hm.1 40 (by omega), hm.1 41 (by omega), hm.1 42 (by omega)]
      simp (disch := omega) only [sA_ne, and_self]
  · intro k m' h1 h2 hm ih
    show V d 53 (13, ([some (.inr (.inr 1)), some (.inr (.inr 27)), some (.inl (k))], ([], (m', (none, (dy, L)))))) Q
    refine v_iload_n (n := 14) xB_53 dX6_copyFrom_13 rfl rfl ?_
    refine v_iconst (n := 15) xB_53 dX6_copyFrom_14 ⟨by decide, by decide⟩ rfl ?_
    refine v_ic_ge_n (n := 18) xB_53 dX6_copyFrom_15 (by decide) rfl (by first | omega | (simp only [sA_same, sA_s, ud_s, Int.reduceEq, if_true, if_false, ite_true, ite_false, ↓reduceIte, and_true, true_and, eq_self, Int.add_zero, Int.reduceAdd]; omega) | (simp (disch := omega) only [sA_same, sA_ne, ud_eq, ud_ne, Int.add_zero, Int.reduceAdd]; omega)) ?_
    refine v_aload_n (n := 19) xB_53 dX6_copyFrom_18 rfl rfl ?_
    refine v_gf_s (n := 22) (kz := 1) xB_53 dX6_copyFrom_19 xO_53 fl_6_20 fg_6_1 (sh_1 _ _ _) rfl st_1_1 rfl ?_
    refine v_iload_n (n := 23) xB_53 dX6_copyFrom_22 rfl rfl ?_
    refine v_aald_s (n := 24) (lz := 5) xB_53 dX6_copyFrom_23 (sh_4 _ _ _) (by decide) rfl (by first | omega | (simp only [sA_same, sA_s, ud_s, Int.reduceEq, if_true, if_false, ite_true, ite_false, ↓reduceIte, and_true, true_and, eq_self, Int.add_zero, Int.reduceAdd]; omega) | (simp (disch := omega) only [sA_same, sA_ne, ud_eq, ud_ne, Int.add_zero, Int.reduceAdd]; omega)) (st_T (by omega)) rfl ?_
    refine v_aload_n (n := 25) xB_53 dX6_copyFrom_24 rfl rfl ?_
    refine v_gf_s (n := 28) (kz := 1) xB_53 dX6_copyFrom_25 xO_53 fl_6_20 fg_6_1 (sh_27 _ _ _) rfl st_27_1 rfl ?_
    refine v_iload_n (n := 29) xB_53 dX6_copyFrom_28 rfl rfl ?_
    refine v_aald_s (n := 30) (lz := 5) xB_53 dX6_copyFrom_29 (sh_30 _ _ _) (by decide) rfl (by first | omega | (simp only [sA_same, sA_s, ud_s, Int.reduceEq, if_true, if_false, ite_true, ite_false, ↓reduceIte, and_true, true_and, eq_self, Int.add_zero, Int.reduceAdd]; omega) | (simp (disch := omega) only [sA_same, sA_ne, ud_eq, ud_ne, Int.add_zero, Int.reduceAdd]; omega)) (st_U (by omega)) rfl ?_
    refine v_call_v (n := 33) xB_53 dX6_copyFrom_30 xO_53 iv_6_44 rfl (sh_T (by first | omega | (simp only [sA_same, sA_s, ud_s, Int.reduceEq, if_true, if_false, ite_true, ite_false, ↓reduceIte, and_true, true_and, eq_self, Int.add_zero, Int.reduceAdd]; omega) | (simp (disch := omega) only [sA_same, sA_ne, ud_eq, ud_ne, Int.add_zero, Int.reduceAdd]; omega)) _ _ _) rfl rfl rfl ?_
    refine k_tcopyu (by omega) (by first | omega | (simp only [sA_same, sA_s, ud_s, Int.reduceEq, if_true, if_false, ite_true, ite_false, ↓reduceIte, and_true, true_and, eq_self, Int.add_zero, Int.reduceAdd]; omega) | (simp (disch := omega) only [sA_same, sA_ne, ud_eq, ud_ne, Int.add_zero, Int.reduceAdd]; omega)) ?_
    (try simp (disch := omega) only [sA_same, sA_ne, sA_sA, sA_sr, sB_s, ud_eq, ud_ne, ud_ud, ud_sr, uB_s, Int.add_zero, Int.reduceAdd])
    refine v_iinc2 (n := 36) xB_53 dX6_copyFrom_33 rfl (by first | omega | (simp only [sA_same, sA_s, ud_s, Int.reduceEq, if_true, if_false, ite_true, ite_false, ↓reduceIte, and_true, true_and, eq_self, Int.add_zero, Int.reduceAdd]; omega) | (simp (disch := omega) only [sA_same, sA_ne, ud_eq, ud_ne, Int.add_zero, Int.reduceAdd]; omega)) rfl ?_
    refine v_goto (t := 13) xB_53 dX6_copyFrom_36 (by decide) rfl ?_
    refine ih _ ⟨fun a ha => ?_, fun t p q => ?_, fun t p q => ?_⟩
    · simp (disch := omega) only [sA_ne]; exact hm.1 a ha
    · have w1 : m' (43 + 2 * k) = m (43 + 2 * k) := by rw [hm.1 _ (by omega)]; simp (disch := omega) only [sA_ne]
      have w2 : m' (44 + 2 * k) = m (44 + 2 * k) := by rw [hm.1 _ (by omega)]; simp (disch := omega) only [sA_ne]
      obtain ⟨w3, w4⟩ := hm.2.2 k (by omega) (by omega)
      by_cases htk : t = k
      · subst htk
        simp (disch := omega) only [sA_ne, sA_same]
        rw [w1, w2, w3, w4]
        exact ⟨rfl, rfl⟩
      · simp (disch := omega) only [sA_ne]
        exact hm.2.1 t p (by omega)
    · simp (disch := omega) only [sA_ne]
      exact hm.2.2 t (by omega) q
  · exact ⟨fun a ha => rfl, fun t p q => by omega, fun t p q => by constructor <;> simp (disch := omega) only [sA_ne]⟩
