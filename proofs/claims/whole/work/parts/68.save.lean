/-! The reference: what is asked and put back. -/
theorem c3 {m : PM} {a b : Int} {F f f2 g g2 : Int → Int} (h1 : f = f2) (h2 : g = g2) : setA (setA (setA m 81 F) a f) b g = setA (setA (setA m 81 F) a f2) b g2 := by rw [h1, h2]
set_option maxHeartbeats 1000000 in
theorem c_save {d : Nat}  {m : PM} {dy : List (Nat × Nat)} {L : Nat} {Q : Option PV → PS → Prop} (hd : 1 ≤ d) (hb : bl (m 99)) (o1 : Q (none) (setA (setA (setA m 81 (ud (m 81) 31 (m 81 22))) 102 (ivl (m 96) (m 102) 0 (24))) 103 (ivl (m 99) (m 103) 0 (24)), (none, (dy, L)))) : C d 170 [.inr (.inr 81)] (m, (none, (dy, L))) Q := by
  refine C_go (k := 0) hd xL_170 (fun d hd => ?_)
  show V d 170 (0, ([some (.inr (.inr 81)), none], ([], (m, (none, (dy, L)))))) Q
  refine v_aload_n (n := 1) xB_170 dX11_save_0 rfl rfl ?_
  refine v_aload_n (n := 2) xB_170 dX11_save_1 rfl rfl ?_
  refine v_gf_i (n := 5) (kz := 22) xB_170 dX11_save_2 xO_170 fl_11_78 fg_11_22 rfl (sh_81 _ _ _) rfl rfl ?_
  refine v_pf_i (n := 8) (kz := 31) xB_170 dX11_save_5 xO_170 fl_11_105 fg_11_31 (Or.inl fn_11_31) (sh_81 _ _ _) (by decide) rfl rfl ?_
  (try simp (disch := omega) only [sA_same, sA_ne, sA_sA, sA_sr, sB_s, ud_eq, ud_ne, ud_ud, ud_sr, uB_s, Int.add_zero, Int.reduceAdd])
  refine v_iconst (n := 9) xB_170 dX11_save_8 ⟨by decide, by decide⟩ rfl ?_
  refine v_istore_n1 (n := 10) xB_170 dX11_save_9 rfl rfl ?_
  refine lp_up (F := fun (k : Int) (m' : PM) => V d 170 (10, ([some (.inr (.inr 81)), some (.inl (k))], ([], (m', (none, (dy, L)))))) Q) (E := fun (k : Int) (m' : PM) => m' = setA (setA (setA m 81 (ud (m 81) 31 (m 81 22))) 102 (ivl (m 96) (m 102) 0 (k))) 103 (ivl (m 99) (m 103) 0 (k))) (a := 0) (b := 24) ?_ ?_ (0) (_) (by first | omega | (simp only [sA_same, sA_s, ud_s, Int.reduceEq, if_true, if_false, ite_true, ite_false, ↓reduceIte, and_true, true_and, eq_self, Int.add_zero, Int.reduceAdd]; omega) | (simp (disch := omega) only [sA_same, sA_ne, ud_eq, ud_ne, Int.add_zero, Int.reduceAdd]; omega)) (by first | omega | (simp only [sA_same, sA_s, ud_s, Int.reduceEq, if_true, if_false, ite_true, ite_false, ↓reduceIte, and_true, true_and, eq_self, Int.add_zero, Int.reduceAdd]; omega) | (simp (disch := omega) only [sA_same, sA_ne, ud_eq, ud_ne, Int.add_zero, Int.reduceAdd]; omega)) ?_
  · intro m' hm 
    show V d 170 (10, ([some (.inr (.inr 81)), some (.inl (24))], ([], (m', (none, (dy, L)))))) Q
    subst hm
    refine v_iload_n (n := 11) xB_170 dX11_save_10 rfl rfl ?_
    refine v_bipush (n := 13) xB_170 dX11_save_11 ⟨by decide, by decide⟩ rfl ?_
    refine v_ic_ge_y (t := 46) xB_170 dX11_save_13 (by decide) rfl (by first | omega | (simp only [sA_same, sA_s, ud_s, Int.reduceEq, if_true, if_false, ite_true, ite_false, ↓reduceIte, and_true, true_and, eq_self, Int.add_zero, Int.reduceAdd]; omega) | (simp (disch := omega) only [sA_same, sA_ne, ud_eq, ud_ne, Int.add_zero, Int.reduceAdd]; omega)) ?_
    refine v_return xB_170 dX11_save_46 xK_170 ?_
    exact o1
  · intro k m' h1 h2 hm ih 
    show V d 170 (10, ([some (.inr (.inr 81)), some (.inl (k))], ([], (m', (none, (dy, L)))))) Q
    subst hm
    have q := hb k
    refine v_iload_n (n := 11) xB_170 dX11_save_10 rfl rfl ?_
    refine v_bipush (n := 13) xB_170 dX11_save_11 ⟨by decide, by decide⟩ rfl ?_
    refine v_ic_ge_n (n := 16) xB_170 dX11_save_13 (by decide) rfl (by first | omega | (simp only [sA_same, sA_s, ud_s, Int.reduceEq, if_true, if_false, ite_true, ite_false, ↓reduceIte, and_true, true_and, eq_self, Int.add_zero, Int.reduceAdd]; omega) | (simp (disch := omega) only [sA_same, sA_ne, ud_eq, ud_ne, Int.add_zero, Int.reduceAdd]; omega)) ?_
    refine v_aload_n (n := 17) xB_170 dX11_save_16 rfl rfl ?_
    refine v_gf_s (n := 20) (kz := 32) xB_170 dX11_save_17 xO_170 fl_11_108 fg_11_32 (sh_81 _ _ _) rfl st_81_32 rfl ?_
    refine v_iload_n (n := 21) xB_170 dX11_save_20 rfl rfl ?_
    refine v_aload_n (n := 22) xB_170 dX11_save_21 rfl rfl ?_
    refine v_gf_s (n := 25) (kz := 23) xB_170 dX11_save_22 xO_170 fl_11_81 fg_11_23 (sh_81 _ _ _) rfl st_81_23 rfl ?_
    refine v_iload_n (n := 26) xB_170 dX11_save_25 rfl rfl ?_
    refine v_iaload (n := 27) (lz := 24) xB_170 dX11_save_26 (sh_96 _ _ _) rfl (by first | omega | (simp only [sA_same, sA_s, ud_s, Int.reduceEq, if_true, if_false, ite_true, ite_false, ↓reduceIte, and_true, true_and, eq_self, Int.add_zero, Int.reduceAdd]; omega) | (simp (disch := omega) only [sA_same, sA_ne, ud_eq, ud_ne, Int.add_zero, Int.reduceAdd]; omega)) rfl ?_
    refine v_iastore (n := 28) (lz := 24) xB_170 dX11_save_27 (sh_102 _ _ _) (by decide) rfl (by first | omega | (simp only [sA_same, sA_s, ud_s, Int.reduceEq, if_true, if_false, ite_true, ite_false, ↓reduceIte, and_true, true_and, eq_self, Int.add_zero, Int.reduceAdd]; omega) | (simp (disch := omega) only [sA_same, sA_ne, ud_eq, ud_ne, Int.add_zero, Int.reduceAdd]; omega)) rfl ?_
    (try simp (disch := omega) only [sA_same, sA_ne, sA_sA, sA_sr, sB_s, ud_eq, ud_ne, ud_ud, ud_sr, uB_s, Int.add_zero, Int.reduceAdd])
    refine v_aload_n (n := 29) xB_170 dX11_save_28 rfl rfl ?_
    refine v_gf_s (n := 32) (kz := 33) xB_170 dX11_save_29 xO_170 fl_11_111 fg_11_33 (sh_81 _ _ _) rfl st_81_33 rfl ?_
    refine v_iload_n (n := 33) xB_170 dX11_save_32 rfl rfl ?_
    refine v_aload_n (n := 34) xB_170 dX11_save_33 rfl rfl ?_
    refine v_gf_s (n := 37) (kz := 26) xB_170 dX11_save_34 xO_170 fl_11_90 fg_11_26 (sh_81 _ _ _) rfl st_81_26 rfl ?_
    refine v_iload_n (n := 38) xB_170 dX11_save_37 rfl rfl ?_
    refine v_baload (n := 39) (lz := 24) xB_170 dX11_save_38 (sh_99 _ _ _) rfl (by first | omega | (simp only [sA_same, sA_s, ud_s, Int.reduceEq, if_true, if_false, ite_true, ite_false, ↓reduceIte, and_true, true_and, eq_self, Int.add_zero, Int.reduceAdd]; omega) | (simp (disch := omega) only [sA_same, sA_ne, ud_eq, ud_ne, Int.add_zero, Int.reduceAdd]; omega)) rfl ?_
    refine v_bastore01 (n := 40) (lz := 24) xB_170 dX11_save_39 (sh_103 _ _ _) (by decide) rfl (by first | omega | (simp only [sA_same, sA_s, ud_s, Int.reduceEq, if_true, if_false, ite_true, ite_false, ↓reduceIte, and_true, true_and, eq_self, Int.add_zero, Int.reduceAdd]; omega) | (simp (disch := omega) only [sA_same, sA_ne, ud_eq, ud_ne, Int.add_zero, Int.reduceAdd]; omega)) (by first | omega | (simp only [sA_same, sA_s, ud_s, Int.reduceEq, if_true, if_false, ite_true, ite_false, ↓reduceIte, and_true, true_and, eq_self, Int.add_zero, Int.reduceAdd]; omega) | (simp (disch := omega) only [sA_same, sA_ne, ud_eq, ud_ne, Int.add_zero, Int.reduceAdd]; omega)) rfl ?_
    (try simp (disch := omega) only [sA_same, sA_ne, sA_sA, sA_sr, sB_s, ud_eq, ud_ne, ud_ud, ud_sr, uB_s, Int.add_zero, Int.reduceAdd])
    refine v_iinc1 (n := 43) xB_170 dX11_save_40 rfl (by first | omega | (simp only [sA_same, sA_s, ud_s, Int.reduceEq, if_true, if_false, ite_true, ite_false, ↓reduceIte, and_true, true_and, eq_self, Int.add_zero, Int.reduceAdd]; omega) | (simp (disch := omega) only [sA_same, sA_ne, ud_eq, ud_ne, Int.add_zero, Int.reduceAdd]; omega)) rfl ?_
    refine v_goto (t := 10) xB_170 dX11_save_43 (by decide) rfl ?_
    refine ih _ ?_
    (try simp (disch := omega) only [sA_same, sA_ne, sA_sA, sA_sr, sB_s, ud_eq, ud_ne, ud_ud, ud_sr, uB_s, Int.add_zero, Int.reduceAdd])
    exact c3 (by funext j'; simp only [ud_s, ivl]; (repeat' split) <;> first | rfl | omega | (exfalso; omega) | (congr 1; omega)) (by funext j'; simp only [ud_s, ivl]; (repeat' split) <;> first | rfl | omega | (exfalso; omega) | (congr 1; omega))
  · rw [ivl_0 (by omega), ivl_0 (by omega)]
    funext a; simp only [sA_s]; (repeat' split) <;> first | rfl | omega | (subst_vars; rfl)
set_option maxHeartbeats 1000000 in
theorem c_putBack {d : Nat}  {m : PM} {dy : List (Nat × Nat)} {L : Nat} {Q : Option PV → PS → Prop} (hd : 1 ≤ d) (hb : bl (m 103)) (o1 : Q (none) (setA (setA (setA m 81 (ud (m 81) 22 (m 81 31))) 96 (ivl (m 102) (m 96) 0 (24))) 99 (ivl (m 103) (m 99) 0 (24)), (none, (dy, L)))) : C d 171 [.inr (.inr 81)] (m, (none, (dy, L))) Q := by
  refine C_go (k := 0) hd xL_171 (fun d hd => ?_)
  show V d 171 (0, ([some (.inr (.inr 81)), none], ([], (m, (none, (dy, L)))))) Q
  refine v_aload_n (n := 1) xB_171 dX11_putBack_0 rfl rfl ?_
  refine v_aload_n (n := 2) xB_171 dX11_putBack_1 rfl rfl ?_
  refine v_gf_i (n := 5) (kz := 31) xB_171 dX11_putBack_2 xO_171 fl_11_105 fg_11_31 rfl (sh_81 _ _ _) rfl rfl ?_
  refine v_pf_i (n := 8) (kz := 22) xB_171 dX11_putBack_5 xO_171 fl_11_78 fg_11_22 (Or.inl fn_11_22) (sh_81 _ _ _) (by decide) rfl rfl ?_
  (try simp (disch := omega) only [sA_same, sA_ne, sA_sA, sA_sr, sB_s, ud_eq, ud_ne, ud_ud, ud_sr, uB_s, Int.add_zero, Int.reduceAdd])
  refine v_iconst (n := 9) xB_171 dX11_putBack_8 ⟨by decide, by decide⟩ rfl ?_
  refine v_istore_n1 (n := 10) xB_171 dX11_putBack_9 rfl rfl ?_
  refine lp_up (F := fun (k : Int) (m' : PM) => V d 171 (10, ([some (.inr (.inr 81)), some (.inl (k))], ([], (m', (none, (dy, L)))))) Q) (E := fun (k : Int) (m' : PM) => m' = setA (setA (setA m 81 (ud (m 81) 22 (m 81 31))) 96 (ivl (m 102) (m 96) 0 (k))) 99 (ivl (m 103) (m 99) 0 (k))) (a := 0) (b := 24) ?_ ?_ (0) (_) (by first | omega | (simp only [sA_same, sA_s, ud_s, Int.reduceEq, if_true, if_false, ite_true, ite_false, ↓reduceIte, and_true, true_and, eq_self, Int.add_zero, Int.reduceAdd]; omega) | (simp (disch := omega) only [sA_same, sA_ne, ud_eq, ud_ne, Int.add_zero, Int.reduceAdd]; omega)) (by first | omega | (simp only [sA_same, sA_s, ud_s, Int.reduceEq, if_true, if_false, ite_true, ite_false, ↓reduceIte, and_true, true_and, eq_self, Int.add_zero, Int.reduceAdd]; omega) | (simp (disch := omega) only [sA_same, sA_ne, ud_eq, ud_ne, Int.add_zero, Int.reduceAdd]; omega)) ?_
  · intro m' hm 
    show V d 171 (10, ([some (.inr (.inr 81)), some (.inl (24))], ([], (m', (none, (dy, L)))))) Q
    subst hm
    refine v_iload_n (n := 11) xB_171 dX11_putBack_10 rfl rfl ?_
    refine v_bipush (n := 13) xB_171 dX11_putBack_11 ⟨by decide, by decide⟩ rfl ?_
    refine v_ic_ge_y (t := 46) xB_171 dX11_putBack_13 (by decide) rfl (by first | omega | (simp only [sA_same, sA_s, ud_s, Int.reduceEq, if_true, if_false, ite_true, ite_false, ↓reduceIte, and_true, true_and, eq_self, Int.add_zero, Int.reduceAdd]; omega) | (simp (disch := omega) only [sA_same, sA_ne, ud_eq, ud_ne, Int.add_zero, Int.reduceAdd]; omega)) ?_
    refine v_return xB_171 dX11_putBack_46 xK_171 ?_
    exact o1
  · intro k m' h1 h2 hm ih 
    show V d 171 (10, ([some (.inr (.inr 81)), some (.inl (k))], ([], (m', (none, (dy, L)))))) Q
    subst hm
    have q := hb k
    refine v_iload_n (n := 11) xB_171 dX11_putBack_10 rfl rfl ?_
    refine v_bipush (n := 13) xB_171 dX11_putBack_11 ⟨by decide, by decide⟩ rfl ?_
    refine v_ic_ge_n (n := 16) xB_171 dX11_putBack_13 (by decide) rfl (by first | omega | (simp only [sA_same, sA_s, ud_s, Int.reduceEq, if_true, if_false, ite_true, ite_false, ↓reduceIte, and_true, true_and, eq_self, Int.add_zero, Int.reduceAdd]; omega) | (simp (disch := omega) only [sA_same, sA_ne, ud_eq, ud_ne, Int.add_zero, Int.reduceAdd]; omega)) ?_
    refine v_aload_n (n := 17) xB_171 dX11_putBack_16 rfl rfl ?_
    refine v_gf_s (n := 20) (kz := 23) xB_171 dX11_putBack_17 xO_171 fl_11_81 fg_11_23 (sh_81 _ _ _) rfl st_81_23 rfl ?_
    refine v_iload_n (n := 21) xB_171 dX11_putBack_20 rfl rfl ?_
    refine v_aload_n (n := 22) xB_171 dX11_putBack_21 rfl rfl ?_
    refine v_gf_s (n := 25) (kz := 32) xB_171 dX11_putBack_22 xO_171 fl_11_108 fg_11_32 (sh_81 _ _ _) rfl st_81_32 rfl ?_
    refine v_iload_n (n := 26) xB_171 dX11_putBack_25 rfl rfl ?_
    refine v_iaload (n := 27) (lz := 24) xB_171 dX11_putBack_26 (sh_102 _ _ _) rfl (by first | omega | (simp only [sA_same, sA_s, ud_s, Int.reduceEq, if_true, if_false, ite_true, ite_false, ↓reduceIte, and_true, true_and, eq_self, Int.add_zero, Int.reduceAdd]; omega) | (simp (disch := omega) only [sA_same, sA_ne, ud_eq, ud_ne, Int.add_zero, Int.reduceAdd]; omega)) rfl ?_
    refine v_iastore (n := 28) (lz := 24) xB_171 dX11_putBack_27 (sh_96 _ _ _) (by decide) rfl (by first | omega | (simp only [sA_same, sA_s, ud_s, Int.reduceEq, if_true, if_false, ite_true, ite_false, ↓reduceIte, and_true, true_and, eq_self, Int.add_zero, Int.reduceAdd]; omega) | (simp (disch := omega) only [sA_same, sA_ne, ud_eq, ud_ne, Int.add_zero, Int.reduceAdd]; omega)) rfl ?_
    (try simp (disch := omega) only [sA_same, sA_ne, sA_sA, sA_sr, sB_s, ud_eq, ud_ne, ud_ud, ud_sr, uB_s, Int.add_zero, Int.reduceAdd])
    refine v_aload_n (n := 29) xB_171 dX11_putBack_28 rfl rfl ?_
    refine v_gf_s (n := 32) (kz := 26) xB_171 dX11_putBack_29 xO_171 fl_11_90 fg_11_26 (sh_81 _ _ _) rfl st_81_26 rfl ?_
    refine v_iload_n (n := 33) xB_171 dX11_putBack_32 rfl rfl ?_
    refine v_aload_n (n := 34) xB_171 dX11_putBack_33 rfl rfl ?_
    refine v_gf_s (n := 37) (kz := 33) xB_171 dX11_putBack_34 xO_171 fl_11_111 fg_11_33 (sh_81 _ _ _) rfl st_81_33 rfl ?_
    refine v_iload_n (n := 38) xB_171 dX11_putBack_37 rfl rfl ?_
    refine v_baload (n := 39) (lz := 24) xB_171 dX11_putBack_38 (sh_103 _ _ _) rfl (by first | omega | (simp only [sA_same, sA_s, ud_s, Int.reduceEq, if_true, if_false, ite_true, ite_false, ↓reduceIte, and_true, true_and, eq_self, Int.add_zero, Int.reduceAdd]; omega) | (simp (disch := omega) only [sA_same, sA_ne, ud_eq, ud_ne, Int.add_zero, Int.reduceAdd]; omega)) rfl ?_
    refine v_bastore01 (n := 40) (lz := 24) xB_171 dX11_putBack_39 (sh_99 _ _ _) (by decide) rfl (by first | omega | (simp only [sA_same, sA_s, ud_s, Int.reduceEq, if_true, if_false, ite_true, ite_false, ↓reduceIte, and_true, true_and, eq_self, Int.add_zero, Int.reduceAdd]; omega) | (simp (disch := omega) only [sA_same, sA_ne, ud_eq, ud_ne, Int.add_zero, Int.reduceAdd]; omega)) (by first | omega | (simp only [sA_same, sA_s, ud_s, Int.reduceEq, if_true, if_false, ite_true, ite_false, ↓reduceIte, and_true, true_and, eq_self, Int.add_zero, Int.reduceAdd]; omega) | (simp (disch := omega) only [sA_same, sA_ne, ud_eq, ud_ne, Int.add_zero, Int.reduceAdd]; omega)) rfl ?_
    (try simp (disch := omega) only [sA_same, sA_ne, sA_sA, sA_sr, sB_s, ud_eq, ud_ne, ud_ud, ud_sr, uB_s, Int.add_zero, Int.reduceAdd])
    refine v_iinc1 (n := 43) xB_171 dX11_putBack_40 rfl (by first | omega | (simp only [sA_same, sA_s, ud_s, Int.reduceEq, if_true, if_false, ite_true, ite_false, ↓reduceIte, and_true, true_and, eq_self, Int.add_zero, Int.reduceAdd]; omega) | (simp (disch := omega) only [sA_same, sA_ne, ud_eq, ud_ne, Int.add_zero, Int.reduceAdd]; omega)) rfl ?_
    refine v_goto (t := 10) xB_171 dX11_putBack_43 (by decide) rfl ?_
    refine ih _ ?_
    (try simp (disch := omega) only [sA_same, sA_ne, sA_sA, sA_sr, sB_s, ud_eq, ud_ne, ud_ud, ud_sr, uB_s, Int.add_zero, Int.reduceAdd])
    exact c3 (by funext j'; simp only [ud_s, ivl]; (repeat' split) <;> first | rfl | omega | (exfalso; omega) | (congr 1; omega)) (by funext j'; simp only [ud_s, ivl]; (repeat' split) <;> first | rfl | omega | (exfalso; omega) | (congr 1; omega))
  · rw [ivl_0 (by omega), ivl_0 (by omega)]
    funext a; simp only [sA_s]; (repeat' split) <;> first | rfl | omega | (subst_vars; rfl)
