/-! The reference: clauses of a job. -/
theorem RCs_95 (m : PM) (c : Int) (S : List Int) (f : Int → Int) : RCs (setA m 95 f) c S = RCs m c S := by
  unfold RCs; simp (disch := omega) only [sA_ne]
def JRs (m : PM) : Int → CLs → Prop
  | _, [] => True
  | c, x :: CL => (okC x ∧ m 88 c = x.1 ∧ (x.1 < 2 → m 89 c = x.2.1) ∧ (2 ≤ x.1 → RCs m c x.2.2)) ∧ JRs m (c + 1) CL
theorem JRs_95 (m : PM) (f : Int → Int) : ∀ (CL : CLs) (c : Int), JRs (setA m 95 f) c CL = JRs m c CL := by
  intro CL
  induction CL with
  | nil => intro c; rfl
  | cons x CL ih => intro c; unfold JRs; rw [ih, RCs_95]; simp (disch := omega) only [sA_ne]
def JR (m : PM) (j : Int) (CL : CLs) : Prop := m 87 j = CL.length ∧ CL.length ≤ 10 ∧ JRs m (10 * j) CL
theorem JR_95 (m : PM) (f : Int → Int) (j : Int) (CL : CLs) : JR (setA m 95 f) j CL = JR m j CL := by
  unfold JR; rw [JRs_95]; simp (disch := omega) only [sA_ne]
set_option maxHeartbeats 1000000 in
theorem c_holds {d : Nat} {c pg t tk : Int} {S : List Int} {m : PM} {dy : List (Nat × Nat)} {L : Nat} {Q : Option PV → PS → Prop} (hd : 2 ≤ d) (ht : 0 ≤ t ∧ t < 5) (hpg : 0 ≤ pg) (hc : 0 ≤ c ∧ c < 60) (hR : RCs m c S) (hG : Good 11 S) (o1 : ∀ f : Int → Int, (vS pg (m 82 t) (m 83 t) tk S = true) → Q (some (.inl 1)) (setA m 95 f, (none, (dy, L)))) (o2 : ∀ f : Int → Int, (vS pg (m 82 t) (m 83 t) tk S = false) → Q (some (.inl 0)) (setA m 95 f, (none, (dy, L)))) : C d 148 [.inr (.inr 81), .inl c, .inl pg, .inl t, .inl tk] (m, (none, (dy, L))) Q := by
  refine C_go (k := 1) hd xL_148 (fun d hd => ?_)
  show V d 148 (0, ([some (.inr (.inr 81)), some (.inl c), some (.inl pg), some (.inl t), some (.inl tk), none, none, none, none, none], ([], (m, (none, (dy, L)))))) Q
  refine v_iconst (n := 1) xB_148 dX11_holds_0 ⟨by decide, by decide⟩ rfl ?_
  refine v_istore5 (n := 3) xB_148 dX11_holds_1 rfl rfl ?_
  refine v_aload_n (n := 4) xB_148 dX11_holds_3 rfl rfl ?_
  refine v_gf_s (n := 7) (kz := 13) xB_148 dX11_holds_4 xO_148 fl_11_50 fg_11_13 (sh_81 _ _ _) rfl st_81_13 rfl ?_
  refine v_iload_n (n := 8) xB_148 dX11_holds_7 rfl rfl ?_
  refine v_iaload (n := 9) (lz := 60) xB_148 dX11_holds_8 (sh_90 _ _ _) rfl (by first | omega | (simp only [sA_same, sA_s, ud_s, Int.reduceEq, if_true, if_false, ite_true, ite_false, ↓reduceIte, and_true, true_and, eq_self, Int.add_zero, Int.reduceAdd]; omega)) rfl ?_
  refine v_istore6 (n := 11) xB_148 dX11_holds_9 rfl rfl ?_
  have q := v_holds (Q := Q) (tk := tk) (dy := dy) (L := L) (d := d) (t := t) (c := c) (pg := pg) (m := m) (by omega) ht hpg hc hR.2.2.1 (vS pg (m 82 t) (m 83 t) tk S) o1 o2 S [] (m 95) 0 (m 90 c) none none none hR.2.2.2 hR.2.1.symm hR.1 (by have := hG.1 0 31 [] (by omega) trivial; rw [List.append_nil] at this; exact this) (by simp) rfl (Good_v hG _ _ _ _ _)
  rw [sA_id] at q
  exact q
theorem v_lastOf {d : Nat} {j w z : Int} {m : PM} {dy : List (Nat × Nat)} {L : Nat} {Q : Option PV → PS → Prop} (hd : 1 ≤ d) (hj : 0 ≤ j ∧ j < 6) (hw : w < 2) (hl : 0 ≤ m 87 j ∧ m 87 j ≤ 10) : ∀ (CL : CLs) (n c : Int), JRs m c CL → c + CL.length = 10 * j + m 87 j → 10 * j ≤ c → Q (some (.inl (lsW CL w n))) (m, (none, (dy, L))) → V d 143 (9, ([some (.inr (.inr 81)), some (.inl j), some (.inl w), some (.inl z), some (.inl (n)), some (.inl (c))], ([], (m, (none, (dy, L)))))) Q := by
  intro CL
  induction CL with
  | nil =>
    intro n c hJ hk h0 o1
    rw [List.length_nil] at hk
    refine v_iload (n := 11) xB_143 dX11_lastOf_9 rfl rfl ?_
    refine v_bipush (n := 13) xB_143 dX11_lastOf_11 ⟨by decide, by decide⟩ rfl ?_
    refine v_iload_n (n := 14) xB_143 dX11_lastOf_13 rfl rfl ?_
    refine v_imul (n := 15) xB_143 dX11_lastOf_14 (by first | omega | (simp only [sA_same, sA_s, ud_s, Int.reduceEq, if_true, if_false, ite_true, ite_false, ↓reduceIte, and_true, true_and, eq_self, Int.add_zero, Int.reduceAdd]; omega)) rfl ?_
    refine v_aload_n (n := 16) xB_143 dX11_lastOf_15 rfl rfl ?_
    refine v_gf_s (n := 19) (kz := 10) xB_143 dX11_lastOf_16 xO_143 fl_11_41 fg_11_10 (sh_81 _ _ _) rfl st_81_10 rfl ?_
    refine v_iload_n (n := 20) xB_143 dX11_lastOf_19 rfl rfl ?_
    refine v_iaload (n := 21) (lz := 6) xB_143 dX11_lastOf_20 (sh_87 _ _ _) rfl (by first | omega | (simp only [sA_same, sA_s, ud_s, Int.reduceEq, if_true, if_false, ite_true, ite_false, ↓reduceIte, and_true, true_and, eq_self, Int.add_zero, Int.reduceAdd]; omega)) rfl ?_
    refine v_iadd (n := 22) xB_143 dX11_lastOf_21 (by first | omega | (simp only [sA_same, sA_s, ud_s, Int.reduceEq, if_true, if_false, ite_true, ite_false, ↓reduceIte, and_true, true_and, eq_self, Int.add_zero, Int.reduceAdd]; omega)) rfl ?_
    refine v_ic_ge_y (t := 56) xB_143 dX11_lastOf_22 (by decide) rfl (by first | omega | (simp only [sA_same, sA_s, ud_s, Int.reduceEq, if_true, if_false, ite_true, ite_false, ↓reduceIte, and_true, true_and, eq_self, Int.add_zero, Int.reduceAdd]; omega)) ?_
    refine v_iload (n := 58) xB_143 dX11_lastOf_56 rfl rfl ?_
    refine v_ireturn0 xB_143 dX11_lastOf_58 xK_143 ?_
    exact o1
  | cons x CL ih =>
    intro n c hJ hk h0 o1
    rw [List.length_cons] at hk
    obtain ⟨⟨h1, h2, h3, h4⟩, h5⟩ := hJ
    by_cases e : x.1 = w
    · skip
      skip
      refine v_iload (n := 11) xB_143 dX11_lastOf_9 rfl rfl ?_
      refine v_bipush (n := 13) xB_143 dX11_lastOf_11 ⟨by decide, by decide⟩ rfl ?_
      refine v_iload_n (n := 14) xB_143 dX11_lastOf_13 rfl rfl ?_
      refine v_imul (n := 15) xB_143 dX11_lastOf_14 (by first | omega | (simp only [sA_same, sA_s, ud_s, Int.reduceEq, if_true, if_false, ite_true, ite_false, ↓reduceIte, and_true, true_and, eq_self, Int.add_zero, Int.reduceAdd]; omega)) rfl ?_
      refine v_aload_n (n := 16) xB_143 dX11_lastOf_15 rfl rfl ?_
      refine v_gf_s (n := 19) (kz := 10) xB_143 dX11_lastOf_16 xO_143 fl_11_41 fg_11_10 (sh_81 _ _ _) rfl st_81_10 rfl ?_
      refine v_iload_n (n := 20) xB_143 dX11_lastOf_19 rfl rfl ?_
      refine v_iaload (n := 21) (lz := 6) xB_143 dX11_lastOf_20 (sh_87 _ _ _) rfl (by first | omega | (simp only [sA_same, sA_s, ud_s, Int.reduceEq, if_true, if_false, ite_true, ite_false, ↓reduceIte, and_true, true_and, eq_self, Int.add_zero, Int.reduceAdd]; omega)) rfl ?_
      refine v_iadd (n := 22) xB_143 dX11_lastOf_21 (by first | omega | (simp only [sA_same, sA_s, ud_s, Int.reduceEq, if_true, if_false, ite_true, ite_false, ↓reduceIte, and_true, true_and, eq_self, Int.add_zero, Int.reduceAdd]; omega)) rfl ?_
      refine v_ic_ge_n (n := 25) xB_143 dX11_lastOf_22 (by decide) rfl (by first | omega | (simp only [sA_same, sA_s, ud_s, Int.reduceEq, if_true, if_false, ite_true, ite_false, ↓reduceIte, and_true, true_and, eq_self, Int.add_zero, Int.reduceAdd]; omega)) ?_
      refine v_aload_n (n := 26) xB_143 dX11_lastOf_25 rfl rfl ?_
      refine v_gf_s (n := 29) (kz := 11) xB_143 dX11_lastOf_26 xO_143 fl_11_44 fg_11_11 (sh_81 _ _ _) rfl st_81_11 rfl ?_
      refine v_iload (n := 31) xB_143 dX11_lastOf_29 rfl rfl ?_
      refine v_iaload (n := 32) (lz := 60) xB_143 dX11_lastOf_31 (sh_88 _ _ _) rfl (by first | omega | (simp only [sA_same, sA_s, ud_s, Int.reduceEq, if_true, if_false, ite_true, ite_false, ↓reduceIte, and_true, true_and, eq_self, Int.add_zero, Int.reduceAdd]; omega)) rfl ?_
      refine v_iload_n (n := 33) xB_143 dX11_lastOf_32 rfl rfl ?_
      refine v_ic_ne_n (n := 36) xB_143 dX11_lastOf_33 (by decide) rfl (by first | omega | (simp only [sA_same, sA_s, ud_s, Int.reduceEq, if_true, if_false, ite_true, ite_false, ↓reduceIte, and_true, true_and, eq_self, Int.add_zero, Int.reduceAdd]; omega)) ?_
      refine v_aload_n (n := 37) xB_143 dX11_lastOf_36 rfl rfl ?_
      refine v_gf_s (n := 40) (kz := 12) xB_143 dX11_lastOf_37 xO_143 fl_11_47 fg_11_12 (sh_81 _ _ _) rfl st_81_12 rfl ?_
      refine v_iload (n := 42) xB_143 dX11_lastOf_40 rfl rfl ?_
      refine v_iaload (n := 43) (lz := 60) xB_143 dX11_lastOf_42 (sh_89 _ _ _) rfl (by first | omega | (simp only [sA_same, sA_s, ud_s, Int.reduceEq, if_true, if_false, ite_true, ite_false, ↓reduceIte, and_true, true_and, eq_self, Int.add_zero, Int.reduceAdd]; omega)) rfl ?_
      refine v_goto (t := 48) xB_143 dX11_lastOf_43 (by decide) rfl ?_
      refine v_istore4 (n := 50) xB_143 dX11_lastOf_48 rfl rfl ?_
      refine v_iinc5 (n := 53) xB_143 dX11_lastOf_50 rfl (by first | omega | (simp only [sA_same, sA_s, ud_s, Int.reduceEq, if_true, if_false, ite_true, ite_false, ↓reduceIte, and_true, true_and, eq_self, Int.add_zero, Int.reduceAdd]; omega)) rfl ?_
      refine v_goto (t := 9) xB_143 dX11_lastOf_53 (by decide) rfl ?_
      refine ih _ _ h5 (by omega) (by omega) ?_
      rw [h3 (by omega)]
      unfold lsW at o1 ⊢
      rw [List.foldl_cons, if_pos e] at o1
      exact o1
    · skip
      skip
      refine v_iload (n := 11) xB_143 dX11_lastOf_9 rfl rfl ?_
      refine v_bipush (n := 13) xB_143 dX11_lastOf_11 ⟨by decide, by decide⟩ rfl ?_
      refine v_iload_n (n := 14) xB_143 dX11_lastOf_13 rfl rfl ?_
      refine v_imul (n := 15) xB_143 dX11_lastOf_14 (by first | omega | (simp only [sA_same, sA_s, ud_s, Int.reduceEq, if_true, if_false, ite_true, ite_false, ↓reduceIte, and_true, true_and, eq_self, Int.add_zero, Int.reduceAdd]; omega)) rfl ?_
      refine v_aload_n (n := 16) xB_143 dX11_lastOf_15 rfl rfl ?_
      refine v_gf_s (n := 19) (kz := 10) xB_143 dX11_lastOf_16 xO_143 fl_11_41 fg_11_10 (sh_81 _ _ _) rfl st_81_10 rfl ?_
      refine v_iload_n (n := 20) xB_143 dX11_lastOf_19 rfl rfl ?_
      refine v_iaload (n := 21) (lz := 6) xB_143 dX11_lastOf_20 (sh_87 _ _ _) rfl (by first | omega | (simp only [sA_same, sA_s, ud_s, Int.reduceEq, if_true, if_false, ite_true, ite_false, ↓reduceIte, and_true, true_and, eq_self, Int.add_zero, Int.reduceAdd]; omega)) rfl ?_
      refine v_iadd (n := 22) xB_143 dX11_lastOf_21 (by first | omega | (simp only [sA_same, sA_s, ud_s, Int.reduceEq, if_true, if_false, ite_true, ite_false, ↓reduceIte, and_true, true_and, eq_self, Int.add_zero, Int.reduceAdd]; omega)) rfl ?_
      refine v_ic_ge_n (n := 25) xB_143 dX11_lastOf_22 (by decide) rfl (by first | omega | (simp only [sA_same, sA_s, ud_s, Int.reduceEq, if_true, if_false, ite_true, ite_false, ↓reduceIte, and_true, true_and, eq_self, Int.add_zero, Int.reduceAdd]; omega)) ?_
      refine v_aload_n (n := 26) xB_143 dX11_lastOf_25 rfl rfl ?_
      refine v_gf_s (n := 29) (kz := 11) xB_143 dX11_lastOf_26 xO_143 fl_11_44 fg_11_11 (sh_81 _ _ _) rfl st_81_11 rfl ?_
      refine v_iload (n := 31) xB_143 dX11_lastOf_29 rfl rfl ?_
      refine v_iaload (n := 32) (lz := 60) xB_143 dX11_lastOf_31 (sh_88 _ _ _) rfl (by first | omega | (simp only [sA_same, sA_s, ud_s, Int.reduceEq, if_true, if_false, ite_true, ite_false, ↓reduceIte, and_true, true_and, eq_self, Int.add_zero, Int.reduceAdd]; omega)) rfl ?_
      refine v_iload_n (n := 33) xB_143 dX11_lastOf_32 rfl rfl ?_
      refine v_ic_ne_y (t := 46) xB_143 dX11_lastOf_33 (by decide) rfl (by first | omega | (simp only [sA_same, sA_s, ud_s, Int.reduceEq, if_true, if_false, ite_true, ite_false, ↓reduceIte, and_true, true_and, eq_self, Int.add_zero, Int.reduceAdd]; omega)) ?_
      refine v_iload (n := 48) xB_143 dX11_lastOf_46 rfl rfl ?_
      refine v_istore4 (n := 50) xB_143 dX11_lastOf_48 rfl rfl ?_
      refine v_iinc5 (n := 53) xB_143 dX11_lastOf_50 rfl (by first | omega | (simp only [sA_same, sA_s, ud_s, Int.reduceEq, if_true, if_false, ite_true, ite_false, ↓reduceIte, and_true, true_and, eq_self, Int.add_zero, Int.reduceAdd]; omega)) rfl ?_
      refine v_goto (t := 9) xB_143 dX11_lastOf_53 (by decide) rfl ?_
      refine ih _ _ h5 (by omega) (by omega) ?_
      unfold lsW at o1 ⊢
      rw [List.foldl_cons, if_neg e] at o1
      exact o1
set_option maxHeartbeats 1000000 in
theorem c_lastOf {d : Nat} {j w z : Int} {CL : CLs} {m : PM} {dy : List (Nat × Nat)} {L : Nat} {Q : Option PV → PS → Prop} (hd : 2 ≤ d) (hj : 0 ≤ j ∧ j < 6) (hJ : JR m j CL) (hw : w < 2) (o1 : Q (some (.inl (lsW CL w z))) (m, (none, (dy, L)))) : C d 143 [.inr (.inr 81), .inl j, .inl w, .inl z] (m, (none, (dy, L))) Q := by
  refine C_go (k := 1) hd xL_143 (fun d hd => ?_)
  show V d 143 (0, ([some (.inr (.inr 81)), some (.inl j), some (.inl w), some (.inl z), none, none], ([], (m, (none, (dy, L)))))) Q
  refine v_iload_n (n := 1) xB_143 dX11_lastOf_0 rfl rfl ?_
  refine v_istore4 (n := 3) xB_143 dX11_lastOf_1 rfl rfl ?_
  refine v_bipush (n := 5) xB_143 dX11_lastOf_3 ⟨by decide, by decide⟩ rfl ?_
  refine v_iload_n (n := 6) xB_143 dX11_lastOf_5 rfl rfl ?_
  refine v_imul (n := 7) xB_143 dX11_lastOf_6 (by first | omega | (simp only [sA_same, sA_s, ud_s, Int.reduceEq, if_true, if_false, ite_true, ite_false, ↓reduceIte, and_true, true_and, eq_self, Int.add_zero, Int.reduceAdd]; omega)) rfl ?_
  refine v_istore5 (n := 9) xB_143 dX11_lastOf_7 rfl rfl ?_
  refine v_lastOf (by omega) hj (by omega) (by rw [hJ.1]; have := hJ.2.1; omega) CL _ _ hJ.2.2 (by rw [hJ.1]) (by omega) o1
theorem JRs_ok {m : PM} : ∀ (CL : CLs) (c : Int), JRs m c CL → okCL CL := by
  intro CL
  induction CL with
  | nil => intro c _ x hx; cases hx
  | cons y CL ih =>
    intro c h x hx
    rcases List.mem_cons.mp hx with rfl | hx
    · exact h.1.1
    · exact ih _ h.2 x hx
theorem JR_ok {m : PM} {j : Int} {CL : CLs} (h : JR m j CL) : okCL CL := JRs_ok _ _ h.2.2
set_option maxHeartbeats 1000000 in
theorem c_first {d : Nat} {j : Int} {CL : CLs} {m : PM} {dy : List (Nat × Nat)} {L : Nat} {Q : Option PV → PS → Prop} (hd : 3 ≤ d) (hj : 0 ≤ j ∧ j < 6) (hJ : JR m j CL) (o1 : Q (some (.inl (frW CL))) (m, (none, (dy, L)))) : C d 144 [.inr (.inr 81), .inl j] (m, (none, (dy, L))) Q := by
  refine C_go (k := 2) hd xL_144 (fun d hd => ?_)
  show V d 144 (0, ([some (.inr (.inr 81)), some (.inl j), none], ([], (m, (none, (dy, L)))))) Q
  refine v_aload_n (n := 1) xB_144 dX11_first_0 rfl rfl ?_
  refine v_iload_n (n := 2) xB_144 dX11_first_1 rfl rfl ?_
  refine v_iconst (n := 3) xB_144 dX11_first_2 ⟨by decide, by decide⟩ rfl ?_
  refine v_iconst (n := 4) xB_144 dX11_first_3 ⟨by decide, by decide⟩ rfl ?_
  refine v_call_v (n := 7) xB_144 dX11_first_4 xO_144 iv_11_279 rfl (sh_81 _ _ _) rfl rfl rfl ?_
  refine c_lastOf (by omega) (by first | omega | (simp only [sA_same, sA_s, ud_s, Int.reduceEq, if_true, if_false, ite_true, ite_false, ↓reduceIte, and_true, true_and, eq_self, Int.add_zero, Int.reduceAdd]; omega)) hJ (by first | omega | (simp only [sA_same, sA_s, ud_s, Int.reduceEq, if_true, if_false, ite_true, ite_false, ↓reduceIte, and_true, true_and, eq_self, Int.add_zero, Int.reduceAdd]; omega)) ?_
  refine v_istore_n2 (n := 8) xB_144 dX11_first_7 rfl rfl ?_
  refine v_iload_n (n := 9) xB_144 dX11_first_8 rfl rfl ?_
  refine v_iconst (n := 10) xB_144 dX11_first_9 ⟨by decide, by decide⟩ rfl ?_
  refine v_ic_ge (t := 17) (n := 13) xB_144 dX11_first_10 (by decide) rfl rfl (fun g1 => ?_) (fun g1 => ?_)
  · refine v_iload_n (n := 18) xB_144 dX11_first_17 rfl rfl ?_
    refine v_ireturn0 xB_144 dX11_first_18 xK_144 ?_
    rw [frW_ls, mx1] at o1
    first | (rw [if_pos (by omega)] at o1; exact o1) | (rw [if_neg (by omega)] at o1; exact o1)
  · refine v_iconst (n := 14) xB_144 dX11_first_13 ⟨by decide, by decide⟩ rfl ?_
    refine v_goto (t := 18) xB_144 dX11_first_14 (by decide) rfl ?_
    refine v_ireturn0 xB_144 dX11_first_18 xK_144 ?_
    rw [frW_ls, mx1] at o1
    first | (rw [if_pos (by omega)] at o1; exact o1) | (rw [if_neg (by omega)] at o1; exact o1)
set_option maxHeartbeats 1000000 in
theorem c_last {d : Nat} {j : Int} {CL : CLs} {m : PM} {dy : List (Nat × Nat)} {L : Nat} {Q : Option PV → PS → Prop} (hd : 3 ≤ d) (hj : 0 ≤ j ∧ j < 6) (hJ : JR m j CL) (o1 : Q (some (.inl (tlW CL))) (m, (none, (dy, L)))) : C d 145 [.inr (.inr 81), .inl j] (m, (none, (dy, L))) Q := by
  refine C_go (k := 2) hd xL_145 (fun d hd => ?_)
  show V d 145 (0, ([some (.inr (.inr 81)), some (.inl j), none], ([], (m, (none, (dy, L)))))) Q
  refine v_aload_n (n := 1) xB_145 dX11_last_0 rfl rfl ?_
  refine v_iload_n (n := 2) xB_145 dX11_last_1 rfl rfl ?_
  refine v_iconst (n := 3) xB_145 dX11_last_2 ⟨by decide, by decide⟩ rfl ?_
  refine v_bipush (n := 5) xB_145 dX11_last_3 ⟨by decide, by decide⟩ rfl ?_
  refine v_call_v (n := 8) xB_145 dX11_last_5 xO_145 iv_11_279 rfl (sh_81 _ _ _) rfl rfl rfl ?_
  refine c_lastOf (by omega) (by first | omega | (simp only [sA_same, sA_s, ud_s, Int.reduceEq, if_true, if_false, ite_true, ite_false, ↓reduceIte, and_true, true_and, eq_self, Int.add_zero, Int.reduceAdd]; omega)) hJ (by first | omega | (simp only [sA_same, sA_s, ud_s, Int.reduceEq, if_true, if_false, ite_true, ite_false, ↓reduceIte, and_true, true_and, eq_self, Int.add_zero, Int.reduceAdd]; omega)) ?_
  refine v_istore_n2 (n := 9) xB_145 dX11_last_8 rfl rfl ?_
  refine v_iload_n (n := 10) xB_145 dX11_last_9 rfl rfl ?_
  refine v_bipush (n := 12) xB_145 dX11_last_10 ⟨by decide, by decide⟩ rfl ?_
  refine v_ic_le (t := 20) (n := 15) xB_145 dX11_last_12 (by decide) rfl rfl (fun g1 => ?_) (fun g1 => ?_)
  · refine v_iload_n (n := 21) xB_145 dX11_last_20 rfl rfl ?_
    refine v_ireturn0 xB_145 dX11_last_21 xK_145 ?_
    rw [tlW_ls, mn24] at o1
    first | (rw [if_pos (by omega)] at o1; exact o1) | (rw [if_neg (by omega)] at o1; exact o1)
  · refine v_bipush (n := 17) xB_145 dX11_last_15 ⟨by decide, by decide⟩ rfl ?_
    refine v_goto (t := 21) xB_145 dX11_last_17 (by decide) rfl ?_
    refine v_ireturn0 xB_145 dX11_last_21 xK_145 ?_
    rw [tlW_ls, mn24] at o1
    first | (rw [if_pos (by omega)] at o1; exact o1) | (rw [if_neg (by omega)] at o1; exact o1)
theorem v_anyHolds {d : Nat} {j w pg t tk : Int} {m : PM} {dy : List (Nat × Nat)} {L : Nat} {Q : Option PV → PS → Prop} (hd : 2 ≤ d) (hj : 0 ≤ j ∧ j < 6) (hw : 2 ≤ w) (hl : 0 ≤ m 87 j ∧ m 87 j ≤ 10) (ht : 0 ≤ t ∧ t < 5) (hpg : 0 ≤ pg) : ∀ (CL : CLs) (c : Int) (f : Int → Int), JRs m c CL → c + CL.length = 10 * j + m 87 j → 10 * j ≤ c → (∀ f : Int → Int, anyW CL w pg (m 82 t) (m 83 t) tk = true → Q (some (.inl 1)) (setA m 95 f, (none, (dy, L)))) → (∀ f : Int → Int, anyW CL w pg (m 82 t) (m 83 t) tk = false → Q (some (.inl 0)) (setA m 95 f, (none, (dy, L)))) → V d 149 (6, ([some (.inr (.inr 81)), some (.inl j), some (.inl w), some (.inl pg), some (.inl t), some (.inl tk), some (.inl (c))], ([], (setA m 95 f, (none, (dy, L)))))) Q := by
  intro CL
  induction CL with
  | nil =>
    intro c f hJ hk h0 o1 o2
    rw [List.length_nil] at hk
    refine v_iload (n := 8) xB_149 dX11_anyHolds_6 rfl rfl ?_
    refine v_bipush (n := 10) xB_149 dX11_anyHolds_8 ⟨by decide, by decide⟩ rfl ?_
    refine v_iload_n (n := 11) xB_149 dX11_anyHolds_10 rfl rfl ?_
    refine v_imul (n := 12) xB_149 dX11_anyHolds_11 (by first | omega | (simp only [sA_same, sA_s, ud_s, Int.reduceEq, if_true, if_false, ite_true, ite_false, ↓reduceIte, and_true, true_and, eq_self, Int.add_zero, Int.reduceAdd]; omega)) rfl ?_
    refine v_aload_n (n := 13) xB_149 dX11_anyHolds_12 rfl rfl ?_
    refine v_gf_s (n := 16) (kz := 10) xB_149 dX11_anyHolds_13 xO_149 fl_11_41 fg_11_10 (sh_81 _ _ _) rfl st_81_10 rfl ?_
    refine v_iload_n (n := 17) xB_149 dX11_anyHolds_16 rfl rfl ?_
    refine v_iaload (n := 18) (lz := 6) xB_149 dX11_anyHolds_17 (sh_87 _ _ _) rfl (by first | omega | (simp only [sA_same, sA_s, ud_s, Int.reduceEq, if_true, if_false, ite_true, ite_false, ↓reduceIte, and_true, true_and, eq_self, Int.add_zero, Int.reduceAdd]; omega)) rfl ?_
    refine v_iadd (n := 19) xB_149 dX11_anyHolds_18 (by first | omega | (simp only [sA_same, sA_s, ud_s, Int.reduceEq, if_true, if_false, ite_true, ite_false, ↓reduceIte, and_true, true_and, eq_self, Int.add_zero, Int.reduceAdd]; omega)) rfl ?_
    refine v_ic_ge_y (t := 55) xB_149 dX11_anyHolds_19 (by decide) rfl (by first | omega | (simp only [sA_same, sA_s, ud_s, Int.reduceEq, if_true, if_false, ite_true, ite_false, ↓reduceIte, and_true, true_and, eq_self, Int.add_zero, Int.reduceAdd]; omega)) ?_
    refine v_iconst (n := 56) xB_149 dX11_anyHolds_55 ⟨by decide, by decide⟩ rfl ?_
    refine v_ireturn1 xB_149 dX11_anyHolds_56 xK_149 (by decide) ?_
    exact o2 _ rfl
  | cons x CL ih =>
    intro c f hJ hk h0 o1 o2
    rw [List.length_cons] at hk
    obtain ⟨⟨h1, h2, h3, h4⟩, h5⟩ := hJ
    by_cases e : x.1 = w
    · have e0 : anyW (x :: CL) w pg (m 82 t) (m 83 t) tk = (vS pg (m 82 t) (m 83 t) tk x.2.2 || anyW CL w pg (m 82 t) (m 83 t) tk) := by simp [anyW, e]
      rw [e0] at o1 o2
      skip
      refine v_iload (n := 8) xB_149 dX11_anyHolds_6 rfl rfl ?_
      refine v_bipush (n := 10) xB_149 dX11_anyHolds_8 ⟨by decide, by decide⟩ rfl ?_
      refine v_iload_n (n := 11) xB_149 dX11_anyHolds_10 rfl rfl ?_
      refine v_imul (n := 12) xB_149 dX11_anyHolds_11 (by first | omega | (simp only [sA_same, sA_s, ud_s, Int.reduceEq, if_true, if_false, ite_true, ite_false, ↓reduceIte, and_true, true_and, eq_self, Int.add_zero, Int.reduceAdd]; omega)) rfl ?_
      refine v_aload_n (n := 13) xB_149 dX11_anyHolds_12 rfl rfl ?_
      refine v_gf_s (n := 16) (kz := 10) xB_149 dX11_anyHolds_13 xO_149 fl_11_41 fg_11_10 (sh_81 _ _ _) rfl st_81_10 rfl ?_
      refine v_iload_n (n := 17) xB_149 dX11_anyHolds_16 rfl rfl ?_
      refine v_iaload (n := 18) (lz := 6) xB_149 dX11_anyHolds_17 (sh_87 _ _ _) rfl (by first | omega | (simp only [sA_same, sA_s, ud_s, Int.reduceEq, if_true, if_false, ite_true, ite_false, ↓reduceIte, and_true, true_and, eq_self, Int.add_zero, Int.reduceAdd]; omega)) rfl ?_
      refine v_iadd (n := 19) xB_149 dX11_anyHolds_18 (by first | omega | (simp only [sA_same, sA_s, ud_s, Int.reduceEq, if_true, if_false, ite_true, ite_false, ↓reduceIte, and_true, true_and, eq_self, Int.add_zero, Int.reduceAdd]; omega)) rfl ?_
      refine v_ic_ge_n (n := 22) xB_149 dX11_anyHolds_19 (by decide) rfl (by first | omega | (simp only [sA_same, sA_s, ud_s, Int.reduceEq, if_true, if_false, ite_true, ite_false, ↓reduceIte, and_true, true_and, eq_self, Int.add_zero, Int.reduceAdd]; omega)) ?_
      refine v_aload_n (n := 23) xB_149 dX11_anyHolds_22 rfl rfl ?_
      refine v_gf_s (n := 26) (kz := 11) xB_149 dX11_anyHolds_23 xO_149 fl_11_44 fg_11_11 (sh_81 _ _ _) rfl st_81_11 rfl ?_
      refine v_iload (n := 28) xB_149 dX11_anyHolds_26 rfl rfl ?_
      refine v_iaload (n := 29) (lz := 60) xB_149 dX11_anyHolds_28 (sh_88 _ _ _) rfl (by first | omega | (simp only [sA_same, sA_s, ud_s, Int.reduceEq, if_true, if_false, ite_true, ite_false, ↓reduceIte, and_true, true_and, eq_self, Int.add_zero, Int.reduceAdd]; omega)) rfl ?_
      refine v_iload_n (n := 30) xB_149 dX11_anyHolds_29 rfl rfl ?_
      refine v_ic_ne_n (n := 33) xB_149 dX11_anyHolds_30 (by decide) rfl (by first | omega | (simp only [sA_same, sA_s, ud_s, Int.reduceEq, if_true, if_false, ite_true, ite_false, ↓reduceIte, and_true, true_and, eq_self, Int.add_zero, Int.reduceAdd]; omega)) ?_
      refine v_aload_n (n := 34) xB_149 dX11_anyHolds_33 rfl rfl ?_
      refine v_iload (n := 36) xB_149 dX11_anyHolds_34 rfl rfl ?_
      refine v_iload_n (n := 37) xB_149 dX11_anyHolds_36 rfl rfl ?_
      refine v_iload (n := 39) xB_149 dX11_anyHolds_37 rfl rfl ?_
      refine v_iload (n := 41) xB_149 dX11_anyHolds_39 rfl rfl ?_
      refine v_call_v (n := 44) xB_149 dX11_anyHolds_41 xO_149 iv_11_296 rfl (sh_81 _ _ _) rfl rfl rfl ?_
      refine c_holds (by omega) (by first | omega | (simp only [sA_same, sA_s, ud_s, Int.reduceEq, if_true, if_false, ite_true, ite_false, ↓reduceIte, and_true, true_and, eq_self, Int.add_zero, Int.reduceAdd]; omega)) (by first | omega | (simp only [sA_same, sA_s, ud_s, Int.reduceEq, if_true, if_false, ite_true, ite_false, ↓reduceIte, and_true, true_and, eq_self, Int.add_zero, Int.reduceAdd]; omega)) (by first | omega | (simp only [sA_same, sA_s, ud_s, Int.reduceEq, if_true, if_false, ite_true, ite_false, ↓reduceIte, and_true, true_and, eq_self, Int.add_zero, Int.reduceAdd]; omega)) (by rw [RCs_95]; exact h4 (by omega)) (h1.2.2 (by omega)) (fun f1 g1 => ?_) (fun f2 g2 => ?_)
      · (try simp (disch := omega) only [sA_same, sA_ne, sA_sA, sA_sr, sB_s, ud_eq, ud_ne, ud_ud, ud_sr, uB_s, Int.add_zero, Int.reduceAdd] at g1)
        (try simp (disch := omega) only [sA_same, sA_ne, sA_sA, sA_sr, sB_s, ud_eq, ud_ne, ud_ud, ud_sr, uB_s, Int.add_zero, Int.reduceAdd])
        refine v_if_eq_n (n := 47) xB_149 dX11_anyHolds_44 (by decide) rfl (by decide) ?_
        refine v_iconst (n := 48) xB_149 dX11_anyHolds_47 ⟨by decide, by decide⟩ rfl ?_
        refine v_ireturn1 xB_149 dX11_anyHolds_48 xK_149 (by decide) ?_
        have g4 : vS pg (m 82 t) (m 83 t) tk x.2.2 = true := by simpa (disch := omega) only [sA_ne] using g1
        (try simp only [sA_sA])
        exact o1 _ (by rw [g4, Bool.true_or])
      · (try simp (disch := omega) only [sA_same, sA_ne, sA_sA, sA_sr, sB_s, ud_eq, ud_ne, ud_ud, ud_sr, uB_s, Int.add_zero, Int.reduceAdd] at g2)
        (try simp (disch := omega) only [sA_same, sA_ne, sA_sA, sA_sr, sB_s, ud_eq, ud_ne, ud_ud, ud_sr, uB_s, Int.add_zero, Int.reduceAdd])
        refine v_if_eq_y (t := 49) xB_149 dX11_anyHolds_44 (by decide) rfl (by decide) ?_
        refine v_iinc6 (n := 52) xB_149 dX11_anyHolds_49 rfl (by first | omega | (simp only [sA_same, sA_s, ud_s, Int.reduceEq, if_true, if_false, ite_true, ite_false, ↓reduceIte, and_true, true_and, eq_self, Int.add_zero, Int.reduceAdd]; omega)) rfl ?_
        refine v_goto (t := 6) xB_149 dX11_anyHolds_52 (by decide) rfl ?_
        refine ih _ _ h5 (by omega) (by omega) (fun f3 h6 => o1 f3 (by rw [h6, Bool.or_true])) (fun f3 h6 => o2 f3 (by rw [h6]; simpa using g2))
    · have e0 : anyW (x :: CL) w pg (m 82 t) (m 83 t) tk = anyW CL w pg (m 82 t) (m 83 t) tk := by simp [anyW, e]
      rw [e0] at o1 o2
      skip
      refine v_iload (n := 8) xB_149 dX11_anyHolds_6 rfl rfl ?_
      refine v_bipush (n := 10) xB_149 dX11_anyHolds_8 ⟨by decide, by decide⟩ rfl ?_
      refine v_iload_n (n := 11) xB_149 dX11_anyHolds_10 rfl rfl ?_
      refine v_imul (n := 12) xB_149 dX11_anyHolds_11 (by first | omega | (simp only [sA_same, sA_s, ud_s, Int.reduceEq, if_true, if_false, ite_true, ite_false, ↓reduceIte, and_true, true_and, eq_self, Int.add_zero, Int.reduceAdd]; omega)) rfl ?_
      refine v_aload_n (n := 13) xB_149 dX11_anyHolds_12 rfl rfl ?_
      refine v_gf_s (n := 16) (kz := 10) xB_149 dX11_anyHolds_13 xO_149 fl_11_41 fg_11_10 (sh_81 _ _ _) rfl st_81_10 rfl ?_
      refine v_iload_n (n := 17) xB_149 dX11_anyHolds_16 rfl rfl ?_
      refine v_iaload (n := 18) (lz := 6) xB_149 dX11_anyHolds_17 (sh_87 _ _ _) rfl (by first | omega | (simp only [sA_same, sA_s, ud_s, Int.reduceEq, if_true, if_false, ite_true, ite_false, ↓reduceIte, and_true, true_and, eq_self, Int.add_zero, Int.reduceAdd]; omega)) rfl ?_
      refine v_iadd (n := 19) xB_149 dX11_anyHolds_18 (by first | omega | (simp only [sA_same, sA_s, ud_s, Int.reduceEq, if_true, if_false, ite_true, ite_false, ↓reduceIte, and_true, true_and, eq_self, Int.add_zero, Int.reduceAdd]; omega)) rfl ?_
      refine v_ic_ge_n (n := 22) xB_149 dX11_anyHolds_19 (by decide) rfl (by first | omega | (simp only [sA_same, sA_s, ud_s, Int.reduceEq, if_true, if_false, ite_true, ite_false, ↓reduceIte, and_true, true_and, eq_self, Int.add_zero, Int.reduceAdd]; omega)) ?_
      refine v_aload_n (n := 23) xB_149 dX11_anyHolds_22 rfl rfl ?_
      refine v_gf_s (n := 26) (kz := 11) xB_149 dX11_anyHolds_23 xO_149 fl_11_44 fg_11_11 (sh_81 _ _ _) rfl st_81_11 rfl ?_
      refine v_iload (n := 28) xB_149 dX11_anyHolds_26 rfl rfl ?_
      refine v_iaload (n := 29) (lz := 60) xB_149 dX11_anyHolds_28 (sh_88 _ _ _) rfl (by first | omega | (simp only [sA_same, sA_s, ud_s, Int.reduceEq, if_true, if_false, ite_true, ite_false, ↓reduceIte, and_true, true_and, eq_self, Int.add_zero, Int.reduceAdd]; omega)) rfl ?_
      refine v_iload_n (n := 30) xB_149 dX11_anyHolds_29 rfl rfl ?_
      refine v_ic_ne_y (t := 49) xB_149 dX11_anyHolds_30 (by decide) rfl (by first | omega | (simp only [sA_same, sA_s, ud_s, Int.reduceEq, if_true, if_false, ite_true, ite_false, ↓reduceIte, and_true, true_and, eq_self, Int.add_zero, Int.reduceAdd]; omega)) ?_
      refine v_iinc6 (n := 52) xB_149 dX11_anyHolds_49 rfl (by first | omega | (simp only [sA_same, sA_s, ud_s, Int.reduceEq, if_true, if_false, ite_true, ite_false, ↓reduceIte, and_true, true_and, eq_self, Int.add_zero, Int.reduceAdd]; omega)) rfl ?_
      refine v_goto (t := 6) xB_149 dX11_anyHolds_52 (by decide) rfl ?_
      exact ih _ _ h5 (by omega) (by omega) o1 o2
set_option maxHeartbeats 1000000 in
theorem c_anyHolds {d : Nat} {j w pg t tk : Int} {CL : CLs} {m : PM} {dy : List (Nat × Nat)} {L : Nat} {Q : Option PV → PS → Prop} (hd : 3 ≤ d) (hj : 0 ≤ j ∧ j < 6) (hJ : JR m j CL) (hw : 2 ≤ w) (ht : 0 ≤ t ∧ t < 5) (hpg : 0 ≤ pg) (o1 : ∀ f : Int → Int, (anyW CL w pg (m 82 t) (m 83 t) tk = true) → Q (some (.inl 1)) (setA m 95 f, (none, (dy, L)))) (o2 : ∀ f : Int → Int, (anyW CL w pg (m 82 t) (m 83 t) tk = false) → Q (some (.inl 0)) (setA m 95 f, (none, (dy, L)))) : C d 149 [.inr (.inr 81), .inl j, .inl w, .inl pg, .inl t, .inl tk] (m, (none, (dy, L))) Q := by
  refine C_go (k := 2) hd xL_149 (fun d hd => ?_)
  show V d 149 (0, ([some (.inr (.inr 81)), some (.inl j), some (.inl w), some (.inl pg), some (.inl t), some (.inl tk), none], ([], (m, (none, (dy, L)))))) Q
  refine v_bipush (n := 2) xB_149 dX11_anyHolds_0 ⟨by decide, by decide⟩ rfl ?_
  refine v_iload_n (n := 3) xB_149 dX11_anyHolds_2 rfl rfl ?_
  refine v_imul (n := 4) xB_149 dX11_anyHolds_3 (by first | omega | (simp only [sA_same, sA_s, ud_s, Int.reduceEq, if_true, if_false, ite_true, ite_false, ↓reduceIte, and_true, true_and, eq_self, Int.add_zero, Int.reduceAdd]; omega)) rfl ?_
  refine v_istore6 (n := 6) xB_149 dX11_anyHolds_4 rfl rfl ?_
  have q := v_anyHolds (Q := Q) (pg := pg) (t := t) (tk := tk) (w := w) (dy := dy) (L := L) (d := d) (by omega) hj hw (by rw [hJ.1]; have := hJ.2.1; omega) ht hpg CL (10 * j) (m 95) hJ.2.2 (by rw [hJ.1]) (by omega) o1 o2
  rw [sA_id] at q
  exact q
theorem v_goesOn {d : Nat} {j p0 t : Int} {m : PM} {dy : List (Nat × Nat)} {L : Nat} {Q : Option PV → PS → Prop} {CL : CLs} (hd : 3 ≤ d) (hj : 0 ≤ j ∧ j < 6) (hJ : JR m j CL) (ht : 0 ≤ t ∧ t < 5) : ∀ (K : Nat) (p : Int) (f : Int → Int), 0 ≤ p → tlW CL < p + K → (∀ f : Int → Int, Q (some (.inl (npF (fun x => anyW CL 2 x (m 82 t) (m 83 t) (m 81 29)) (tlW CL) K p))) (setA m 95 f, (none, (dy, L)))) → V d 166 (3, ([some (.inr (.inr 81)), some (.inl j), some (.inl p0), some (.inl t), some (.inl (p))], ([], (setA m 95 f, (none, (dy, L)))))) Q := by
  intro K
  have htl := tlW_in (JR_ok hJ)
  induction K with
  | zero =>
    intro p f h0 hK o1
    rw [npF_stop (by omega)] at o1
    refine v_iload (n := 5) xB_166 dX11_goesOn_3 rfl rfl ?_
    refine v_aload_n (n := 6) xB_166 dX11_goesOn_5 rfl rfl ?_
    refine v_iload_n (n := 7) xB_166 dX11_goesOn_6 rfl rfl ?_
    refine v_call_v (n := 10) xB_166 dX11_goesOn_7 xO_166 iv_11_289 rfl (sh_81 _ _ _) rfl rfl rfl ?_
    refine c_last (by omega) (by first | omega | (simp only [sA_same, sA_s, ud_s, Int.reduceEq, if_true, if_false, ite_true, ite_false, ↓reduceIte, and_true, true_and, eq_self, Int.add_zero, Int.reduceAdd]; omega)) (by first | assumption | (rw [JR_95]; assumption) | (simp only [JR_95]; assumption)) ?_
    refine v_ic_gt_y (t := 35) xB_166 dX11_goesOn_10 (by decide) rfl (by first | omega | (simp only [sA_same, sA_s, ud_s, Int.reduceEq, if_true, if_false, ite_true, ite_false, ↓reduceIte, and_true, true_and, eq_self, Int.add_zero, Int.reduceAdd]; omega)) ?_
    refine v_iload (n := 37) xB_166 dX11_goesOn_35 rfl rfl ?_
    refine v_ireturn0 xB_166 dX11_goesOn_37 xK_166 ?_
    exact o1 _
  | succ K ih =>
    intro p f h0 hK o1
    rw [npF] at o1
    refine v_iload (n := 5) xB_166 dX11_goesOn_3 rfl rfl ?_
    refine v_aload_n (n := 6) xB_166 dX11_goesOn_5 rfl rfl ?_
    refine v_iload_n (n := 7) xB_166 dX11_goesOn_6 rfl rfl ?_
    refine v_call_v (n := 10) xB_166 dX11_goesOn_7 xO_166 iv_11_289 rfl (sh_81 _ _ _) rfl rfl rfl ?_
    refine c_last (by omega) (by first | omega | (simp only [sA_same, sA_s, ud_s, Int.reduceEq, if_true, if_false, ite_true, ite_false, ↓reduceIte, and_true, true_and, eq_self, Int.add_zero, Int.reduceAdd]; omega)) (by first | assumption | (rw [JR_95]; assumption) | (simp only [JR_95]; assumption)) ?_
    refine v_ic_gt (t := 35) (n := 13) xB_166 dX11_goesOn_10 (by decide) rfl rfl (fun g1 => ?_) (fun g1 => ?_)
    · (try simp (disch := omega) only [sA_same, sA_ne, sA_sA, sA_sr, sB_s, ud_eq, ud_ne, ud_ud, ud_sr, uB_s, Int.add_zero, Int.reduceAdd] at g1)
      refine v_iload (n := 37) xB_166 dX11_goesOn_35 rfl rfl ?_
      refine v_ireturn0 xB_166 dX11_goesOn_37 xK_166 ?_
      (first | rw [if_neg (by omega)] at o1 | rw [if_neg (fun e => by have e2 := e.2; rw [g3] at e2; cases e2)] at o1)
      first | exact o1 _ | (simp only [sA_sA]; exact o1 _)
    · (try simp (disch := omega) only [sA_same, sA_ne, sA_sA, sA_sr, sB_s, ud_eq, ud_ne, ud_ud, ud_sr, uB_s, Int.add_zero, Int.reduceAdd] at g1)
      refine v_aload_n (n := 14) xB_166 dX11_goesOn_13 rfl rfl ?_
      refine v_iload_n (n := 15) xB_166 dX11_goesOn_14 rfl rfl ?_
      refine v_iconst (n := 16) xB_166 dX11_goesOn_15 ⟨by decide, by decide⟩ rfl ?_
      refine v_iload (n := 18) xB_166 dX11_goesOn_16 rfl rfl ?_
      refine v_iload_n (n := 19) xB_166 dX11_goesOn_18 rfl rfl ?_
      refine v_aload_n (n := 20) xB_166 dX11_goesOn_19 rfl rfl ?_
      refine v_gf_i (n := 23) (kz := 29) xB_166 dX11_goesOn_20 xO_166 fl_11_99 fg_11_29 rfl (sh_81 _ _ _) rfl rfl ?_
      refine v_call_v (n := 26) xB_166 dX11_goesOn_23 xO_166 iv_11_327 rfl (sh_81 _ _ _) rfl rfl rfl ?_
      refine c_anyHolds (by omega) (by first | omega | (simp only [sA_same, sA_s, ud_s, Int.reduceEq, if_true, if_false, ite_true, ite_false, ↓reduceIte, and_true, true_and, eq_self, Int.add_zero, Int.reduceAdd]; omega)) (by first | assumption | (rw [JR_95]; assumption) | (simp only [JR_95]; assumption)) (by first | omega | (simp only [sA_same, sA_s, ud_s, Int.reduceEq, if_true, if_false, ite_true, ite_false, ↓reduceIte, and_true, true_and, eq_self, Int.add_zero, Int.reduceAdd]; omega)) (by first | omega | (simp only [sA_same, sA_s, ud_s, Int.reduceEq, if_true, if_false, ite_true, ite_false, ↓reduceIte, and_true, true_and, eq_self, Int.add_zero, Int.reduceAdd]; omega)) (by first | omega | (simp only [sA_same, sA_s, ud_s, Int.reduceEq, if_true, if_false, ite_true, ite_false, ↓reduceIte, and_true, true_and, eq_self, Int.add_zero, Int.reduceAdd]; omega)) (fun f1 g2 => ?_) (fun f2 g3 => ?_)
      · (try simp (disch := omega) only [sA_same, sA_ne, sA_sA, sA_sr, sB_s, ud_eq, ud_ne, ud_ud, ud_sr, uB_s, Int.add_zero, Int.reduceAdd] at g2)
        (try simp (disch := omega) only [sA_same, sA_ne, sA_sA, sA_sr, sB_s, ud_eq, ud_ne, ud_ud, ud_sr, uB_s, Int.add_zero, Int.reduceAdd])
        refine v_if_eq_n (n := 29) xB_166 dX11_goesOn_26 (by decide) rfl (by decide) ?_
        refine v_iinc4 (n := 32) xB_166 dX11_goesOn_29 rfl (by first | omega | (simp only [sA_same, sA_s, ud_s, Int.reduceEq, if_true, if_false, ite_true, ite_false, ↓reduceIte, and_true, true_and, eq_self, Int.add_zero, Int.reduceAdd]; omega)) rfl ?_
        refine v_goto (t := 3) xB_166 dX11_goesOn_32 (by decide) rfl ?_
        rw [if_pos ⟨by omega, by assumption⟩] at o1
        exact ih _ _ (by omega) (by omega) o1
      · (try simp (disch := omega) only [sA_same, sA_ne, sA_sA, sA_sr, sB_s, ud_eq, ud_ne, ud_ud, ud_sr, uB_s, Int.add_zero, Int.reduceAdd] at g3)
        (try simp (disch := omega) only [sA_same, sA_ne, sA_sA, sA_sr, sB_s, ud_eq, ud_ne, ud_ud, ud_sr, uB_s, Int.add_zero, Int.reduceAdd])
        refine v_if_eq_y (t := 35) xB_166 dX11_goesOn_26 (by decide) rfl (by decide) ?_
        refine v_iload (n := 37) xB_166 dX11_goesOn_35 rfl rfl ?_
        refine v_ireturn0 xB_166 dX11_goesOn_37 xK_166 ?_
        (first | rw [if_neg (by omega)] at o1 | rw [if_neg (fun e => by have e2 := e.2; rw [g3] at e2; cases e2)] at o1)
        first | exact o1 _ | (simp only [sA_sA]; exact o1 _)
set_option maxHeartbeats 1000000 in
theorem c_goesOn {d : Nat} {j p t : Int} {CL : CLs} {m : PM} {dy : List (Nat × Nat)} {L : Nat} {Q : Option PV → PS → Prop} (hd : 4 ≤ d) (hj : 0 ≤ j ∧ j < 6) (hJ : JR m j CL) (ht : 0 ≤ t ∧ t < 5) (hp0 : 0 ≤ p) (o1 : ∀ f : Int → Int, Q (some (.inl (nxF (m 82 t) (m 83 t) (m 81 29) CL p))) (setA m 95 f, (none, (dy, L)))) : C d 166 [.inr (.inr 81), .inl j, .inl p, .inl t] (m, (none, (dy, L))) Q := by
  refine C_go (k := 3) hd xL_166 (fun d hd => ?_)
  show V d 166 (0, ([some (.inr (.inr 81)), some (.inl j), some (.inl p), some (.inl t), none], ([], (m, (none, (dy, L)))))) Q
  refine v_iload_n (n := 1) xB_166 dX11_goesOn_0 rfl rfl ?_
  refine v_istore4 (n := 3) xB_166 dX11_goesOn_1 rfl rfl ?_
  have q := v_goesOn (Q := Q) (p0 := p) (t := t) (dy := dy) (L := L) (d := d) (CL := CL) (by omega) hj hJ ht 30 p (m 95) hp0 (by have := tlW_in (JR_ok hJ); omega) o1
  rw [sA_id] at q
  exact q
