/-! Acts: the class. -/
set_option maxHeartbeats 1000000 in
theorem k_begins {d : Nat} {b dp : Int} {m : PM} {dy : List (Nat × Nat)} {L : Nat} {Q : Option PV → PS → Prop} (hd : 1 ≤ d) (hr : 0 ≤ m 66 1 ∧ m 66 1 + 1 ≤ 20) (hdp : 0 ≤ dp ∧ dp ≤ 20) (o1 : Q (some (.inl 1)) (setA (setA m 66 (ud (m 66) 1 (m 66 1 + 1))) 67 (ud (m 67) (m 66 1) b), (none, (dy, L)))) : C d 4 [.inr (.inr 66), .inl b, .inl dp] (m, (none, (dy, L))) Q := by
  refine C_go (k := 0) hd xL_4 (fun d hd => ?_)
  show V d 4 (0, ([some (.inr (.inr 66)), some (.inl b), some (.inl dp)], ([], (m, (none, (dy, L)))))) Q
  refine v_iload_n (n := 1) xB_4 dX0_begins_0 rfl rfl ?_
  refine v_bipush (n := 3) xB_4 dX0_begins_1 ⟨by decide, by decide⟩ rfl ?_
  refine v_ic_le_y (t := 8) xB_4 dX0_begins_3 (by decide) rfl (by first | omega | (simp only [sA_same, sA_s, ud_s, Int.reduceEq, if_true, if_false, ite_true, ite_false, ↓reduceIte, and_true, true_and, eq_self, Int.add_zero, Int.reduceAdd]; omega) | (simp (disch := omega) only [sA_same, sA_ne, ud_eq, ud_ne, Int.add_zero, Int.reduceAdd]; omega)) ?_
  refine v_aload_n (n := 9) xB_4 dX0_begins_8 rfl rfl ?_
  refine v_gf_i (n := 12) (kz := 1) xB_4 dX0_begins_9 xO_4 fl_0_15 fg_0_1 rfl (sh_66 _ _ _) rfl rfl ?_
  refine v_bipush (n := 14) xB_4 dX0_begins_12 ⟨by decide, by decide⟩ rfl ?_
  refine v_ic_ge_n (n := 17) xB_4 dX0_begins_14 (by decide) rfl (by first | omega | (simp only [sA_same, sA_s, ud_s, Int.reduceEq, if_true, if_false, ite_true, ite_false, ↓reduceIte, and_true, true_and, eq_self, Int.add_zero, Int.reduceAdd]; omega) | (simp (disch := omega) only [sA_same, sA_ne, ud_eq, ud_ne, Int.add_zero, Int.reduceAdd]; omega)) ?_
  refine v_aload_n (n := 18) xB_4 dX0_begins_17 rfl rfl ?_
  refine v_gf_s (n := 21) (kz := 0) xB_4 dX0_begins_18 xO_4 fl_0_9 fg_0_0 (sh_66 _ _ _) rfl st_66_0 rfl ?_
  refine v_aload_n (n := 22) xB_4 dX0_begins_21 rfl rfl ?_
  refine v_gf_i (n := 25) (kz := 1) xB_4 dX0_begins_22 xO_4 fl_0_15 fg_0_1 rfl (sh_66 _ _ _) rfl rfl ?_
  refine v_iload_n (n := 26) xB_4 dX0_begins_25 rfl rfl ?_
  refine v_iastore (n := 27) (lz := 20) xB_4 dX0_begins_26 (sh_67 _ _ _) (by decide) rfl (by first | omega | (simp only [sA_same, sA_s, ud_s, Int.reduceEq, if_true, if_false, ite_true, ite_false, ↓reduceIte, and_true, true_and, eq_self, Int.add_zero, Int.reduceAdd]; omega) | (simp (disch := omega) only [sA_same, sA_ne, ud_eq, ud_ne, Int.add_zero, Int.reduceAdd]; omega)) rfl ?_
  (try simp (disch := omega) only [sA_same, sA_ne, sA_sA, sA_sr, sB_s, ud_eq, ud_ne, ud_ud, ud_sr, uB_s, Int.add_zero, Int.reduceAdd])
  refine v_aload_n (n := 28) xB_4 dX0_begins_27 rfl rfl ?_
  refine v_dup (n := 29) xB_4 dX0_begins_28 rfl rfl ?_
  refine v_gf_i (n := 32) (kz := 1) xB_4 dX0_begins_29 xO_4 fl_0_15 fg_0_1 rfl (sh_66 _ _ _) rfl rfl ?_
  refine v_iconst (n := 33) xB_4 dX0_begins_32 ⟨by decide, by decide⟩ rfl ?_
  refine v_iadd (n := 34) xB_4 dX0_begins_33 (by first | omega | (simp only [sA_same, sA_s, ud_s, Int.reduceEq, if_true, if_false, ite_true, ite_false, ↓reduceIte, and_true, true_and, eq_self, Int.add_zero, Int.reduceAdd]; omega) | (simp (disch := omega) only [sA_same, sA_ne, ud_eq, ud_ne, Int.add_zero, Int.reduceAdd]; omega)) rfl ?_
  refine v_pf_i (n := 37) (kz := 1) xB_4 dX0_begins_34 xO_4 fl_0_15 fg_0_1 (Or.inl fn_0_1) (sh_66 _ _ _) (by decide) rfl rfl ?_
  (try simp (disch := omega) only [sA_same, sA_ne, sA_sA, sA_sr, sB_s, ud_eq, ud_ne, ud_ud, ud_sr, uB_s, Int.add_zero, Int.reduceAdd])
  refine v_iconst (n := 38) xB_4 dX0_begins_37 ⟨by decide, by decide⟩ rfl ?_
  refine v_ireturn1 xB_4 dX0_begins_38 xK_4 (by decide) ?_
  exact o1
set_option maxHeartbeats 1000000 in
theorem kf_D {d : Nat} {k x dp : Int} {m : PM} {dy : List (Nat × Nat)} {L : Nat} {Q : Option PV → PS → Prop} (hd : 2 ≤ d) (hr : 0 ≤ m 66 1 ∧ m 66 1 + 1 ≤ 20) (hdp : 0 ≤ dp ∧ dp ≤ 19) (hk : k = 0 ∨ k = 1 ∨ k = 3) (o1 : Q (some (.inl (wr32 (x + m 66 2)))) (setA (setA m 66 (ud (m 66) 1 (rsL (m 66 1) ([10])))) 67 (ap (m 67) (m 66 1) ([10])), (none, (dy, L)))) : C d 5 [.inr (.inr 66), .inl k, .inl x, .inl dp] (m, (none, (dy, L))) Q := by
  refine C_go (k := 1) hd xL_5 (fun d hd => ?_)
  show V d 5 (0, ([some (.inr (.inr 66)), some (.inl k), some (.inl x), some (.inl dp)], ([], (m, (none, (dy, L)))))) Q
  rcases (by omega : k = 0 ∨ k = 1 ∨ k = 3) with hk | hk | hk
  · subst hk
    refine v_iload_n (n := 1) xB_5 dX0_feeds_0 rfl rfl ?_
    refine v_tsw xB_5 dX0_feeds_1 rfl ?_
    refine ts_c (lo' := 3) rfl (fun g1 => ?_) (fun g1 => ?_)
    · refine jm_go (t := 36) (by decide) rfl ?_
      exfalso; omega
    refine ts_c (lo' := 4) rfl (fun g2 => ?_) (fun g2 => ?_)
    · refine jm_go (t := 116) (by decide) rfl ?_
      exfalso; omega
    refine ts_c (lo' := 5) rfl (fun g3 => ?_) (fun g3 => ?_)
    · refine jm_go (t := 62) (by decide) rfl ?_
      exfalso; omega
    refine ts_c (lo' := 6) rfl (fun g4 => ?_) (fun g4 => ?_)
    · refine jm_go (t := 36) (by decide) rfl ?_
      exfalso; omega
    refine ts_c (lo' := 7) rfl (fun g5 => ?_) (fun g5 => ?_)
    · refine jm_go (t := 87) (by decide) rfl ?_
      exfalso; omega
    refine ts_n ?_
    refine jm_go (t := 116) (by decide) rfl ?_
    refine v_aload_n (n := 117) xB_5 dX0_feeds_116 rfl rfl ?_
    refine v_bipush (n := 119) xB_5 dX0_feeds_117 ⟨by decide, by decide⟩ rfl ?_
    refine v_iload_n (n := 120) xB_5 dX0_feeds_119 rfl rfl ?_
    refine v_call_v (n := 123) xB_5 dX0_feeds_120 xO_5 iv_0_42 rfl (sh_66 _ _ _) rfl rfl rfl ?_
    refine k_begins (by omega) (by first | omega | (simp only [sA_same, sA_s, ud_s, Int.reduceEq, if_true, if_false, ite_true, ite_false, ↓reduceIte, and_true, true_and, eq_self, Int.add_zero, Int.reduceAdd]; omega) | (simp (disch := omega) only [sA_same, sA_ne, ud_eq, ud_ne, Int.add_zero, Int.reduceAdd]; omega)) (by first | omega | (simp only [sA_same, sA_s, ud_s, Int.reduceEq, if_true, if_false, ite_true, ite_false, ↓reduceIte, and_true, true_and, eq_self, Int.add_zero, Int.reduceAdd]; omega) | (simp (disch := omega) only [sA_same, sA_ne, ud_eq, ud_ne, Int.add_zero, Int.reduceAdd]; omega)) ?_
    (try simp (disch := omega) only [sA_same, sA_ne, sA_sA, sA_sr, sB_s, ud_eq, ud_ne, ud_ud, ud_sr, uB_s, Int.add_zero, Int.reduceAdd])
    refine v_if_eq_n (n := 126) xB_5 dX0_feeds_123 (by decide) rfl (by decide) ?_
    refine v_iload_n (n := 127) xB_5 dX0_feeds_126 rfl rfl ?_
    refine v_aload_n (n := 128) xB_5 dX0_feeds_127 rfl rfl ?_
    refine v_gf_i (n := 131) (kz := 2) xB_5 dX0_feeds_128 xO_5 fl_0_19 fg_0_2 rfl (sh_66 _ _ _) rfl rfl ?_
    refine v_iaddw (n := 132) xB_5 dX0_feeds_131 rfl ?_
    refine v_goto (t := 136) xB_5 dX0_feeds_132 (by decide) rfl ?_
    refine v_ireturn0 xB_5 dX0_feeds_136 xK_5 ?_
    exact o1
  · subst hk
    refine v_iload_n (n := 1) xB_5 dX0_feeds_0 rfl rfl ?_
    refine v_tsw xB_5 dX0_feeds_1 rfl ?_
    refine ts_c (lo' := 3) rfl (fun g1 => ?_) (fun g1 => ?_)
    · refine jm_go (t := 36) (by decide) rfl ?_
      exfalso; omega
    refine ts_c (lo' := 4) rfl (fun g2 => ?_) (fun g2 => ?_)
    · refine jm_go (t := 116) (by decide) rfl ?_
      exfalso; omega
    refine ts_c (lo' := 5) rfl (fun g3 => ?_) (fun g3 => ?_)
    · refine jm_go (t := 62) (by decide) rfl ?_
      exfalso; omega
    refine ts_c (lo' := 6) rfl (fun g4 => ?_) (fun g4 => ?_)
    · refine jm_go (t := 36) (by decide) rfl ?_
      exfalso; omega
    refine ts_c (lo' := 7) rfl (fun g5 => ?_) (fun g5 => ?_)
    · refine jm_go (t := 87) (by decide) rfl ?_
      exfalso; omega
    refine ts_n ?_
    refine jm_go (t := 116) (by decide) rfl ?_
    refine v_aload_n (n := 117) xB_5 dX0_feeds_116 rfl rfl ?_
    refine v_bipush (n := 119) xB_5 dX0_feeds_117 ⟨by decide, by decide⟩ rfl ?_
    refine v_iload_n (n := 120) xB_5 dX0_feeds_119 rfl rfl ?_
    refine v_call_v (n := 123) xB_5 dX0_feeds_120 xO_5 iv_0_42 rfl (sh_66 _ _ _) rfl rfl rfl ?_
    refine k_begins (by omega) (by first | omega | (simp only [sA_same, sA_s, ud_s, Int.reduceEq, if_true, if_false, ite_true, ite_false, ↓reduceIte, and_true, true_and, eq_self, Int.add_zero, Int.reduceAdd]; omega) | (simp (disch := omega) only [sA_same, sA_ne, ud_eq, ud_ne, Int.add_zero, Int.reduceAdd]; omega)) (by first | omega | (simp only [sA_same, sA_s, ud_s, Int.reduceEq, if_true, if_false, ite_true, ite_false, ↓reduceIte, and_true, true_and, eq_self, Int.add_zero, Int.reduceAdd]; omega) | (simp (disch := omega) only [sA_same, sA_ne, ud_eq, ud_ne, Int.add_zero, Int.reduceAdd]; omega)) ?_
    (try simp (disch := omega) only [sA_same, sA_ne, sA_sA, sA_sr, sB_s, ud_eq, ud_ne, ud_ud, ud_sr, uB_s, Int.add_zero, Int.reduceAdd])
    refine v_if_eq_n (n := 126) xB_5 dX0_feeds_123 (by decide) rfl (by decide) ?_
    refine v_iload_n (n := 127) xB_5 dX0_feeds_126 rfl rfl ?_
    refine v_aload_n (n := 128) xB_5 dX0_feeds_127 rfl rfl ?_
    refine v_gf_i (n := 131) (kz := 2) xB_5 dX0_feeds_128 xO_5 fl_0_19 fg_0_2 rfl (sh_66 _ _ _) rfl rfl ?_
    refine v_iaddw (n := 132) xB_5 dX0_feeds_131 rfl ?_
    refine v_goto (t := 136) xB_5 dX0_feeds_132 (by decide) rfl ?_
    refine v_ireturn0 xB_5 dX0_feeds_136 xK_5 ?_
    exact o1
  · subst hk
    refine v_iload_n (n := 1) xB_5 dX0_feeds_0 rfl rfl ?_
    refine v_tsw xB_5 dX0_feeds_1 rfl ?_
    refine ts_c (lo' := 3) rfl (fun g1 => ?_) (fun g1 => ?_)
    · refine jm_go (t := 36) (by decide) rfl ?_
      exfalso; omega
    refine ts_c (lo' := 4) rfl (fun g2 => ?_) (fun g2 => ?_)
    · refine jm_go (t := 116) (by decide) rfl ?_
      refine v_aload_n (n := 117) xB_5 dX0_feeds_116 rfl rfl ?_
      refine v_bipush (n := 119) xB_5 dX0_feeds_117 ⟨by decide, by decide⟩ rfl ?_
      refine v_iload_n (n := 120) xB_5 dX0_feeds_119 rfl rfl ?_
      refine v_call_v (n := 123) xB_5 dX0_feeds_120 xO_5 iv_0_42 rfl (sh_66 _ _ _) rfl rfl rfl ?_
      refine k_begins (by omega) (by first | omega | (simp only [sA_same, sA_s, ud_s, Int.reduceEq, if_true, if_false, ite_true, ite_false, ↓reduceIte, and_true, true_and, eq_self, Int.add_zero, Int.reduceAdd]; omega) | (simp (disch := omega) only [sA_same, sA_ne, ud_eq, ud_ne, Int.add_zero, Int.reduceAdd]; omega)) (by first | omega | (simp only [sA_same, sA_s, ud_s, Int.reduceEq, if_true, if_false, ite_true, ite_false, ↓reduceIte, and_true, true_and, eq_self, Int.add_zero, Int.reduceAdd]; omega) | (simp (disch := omega) only [sA_same, sA_ne, ud_eq, ud_ne, Int.add_zero, Int.reduceAdd]; omega)) ?_
      (try simp (disch := omega) only [sA_same, sA_ne, sA_sA, sA_sr, sB_s, ud_eq, ud_ne, ud_ud, ud_sr, uB_s, Int.add_zero, Int.reduceAdd])
      refine v_if_eq_n (n := 126) xB_5 dX0_feeds_123 (by decide) rfl (by decide) ?_
      refine v_iload_n (n := 127) xB_5 dX0_feeds_126 rfl rfl ?_
      refine v_aload_n (n := 128) xB_5 dX0_feeds_127 rfl rfl ?_
      refine v_gf_i (n := 131) (kz := 2) xB_5 dX0_feeds_128 xO_5 fl_0_19 fg_0_2 rfl (sh_66 _ _ _) rfl rfl ?_
      refine v_iaddw (n := 132) xB_5 dX0_feeds_131 rfl ?_
      refine v_goto (t := 136) xB_5 dX0_feeds_132 (by decide) rfl ?_
      refine v_ireturn0 xB_5 dX0_feeds_136 xK_5 ?_
      exact o1
    refine ts_c (lo' := 5) rfl (fun g3 => ?_) (fun g3 => ?_)
    · refine jm_go (t := 62) (by decide) rfl ?_
      exfalso; omega
    refine ts_c (lo' := 6) rfl (fun g4 => ?_) (fun g4 => ?_)
    · refine jm_go (t := 36) (by decide) rfl ?_
      exfalso; omega
    refine ts_c (lo' := 7) rfl (fun g5 => ?_) (fun g5 => ?_)
    · refine jm_go (t := 87) (by decide) rfl ?_
      exfalso; omega
    refine ts_n ?_
    refine jm_go (t := 116) (by decide) rfl ?_
    exfalso; omega
set_option maxHeartbeats 1000000 in
theorem k_feeds {d : Nat} {k x dp : Int} {m : PM} {dy : List (Nat × Nat)} {L : Nat} {Q : Option PV → PS → Prop} (hd : 3 ≤ d) (hr : 0 ≤ m 66 1 ∧ m 66 1 + 2 ≤ 20) (hdp : 0 ≤ dp ∧ dp ≤ 18) (hk : 0 ≤ k ∧ k ≤ 6) (o1 : Q (some (.inl (fV k (m 66 2) (m 66 4) x))) (setA (setA m 66 (ud (m 66) 1 (rsL (m 66 1) (fL k)))) 67 (ap (m 67) (m 66 1) (fL k)), (none, (dy, L)))) : C d 5 [.inr (.inr 66), .inl k, .inl x, .inl dp] (m, (none, (dy, L))) Q := by
  refine C_go (k := 2) hd xL_5 (fun d hd => ?_)
  show V d 5 (0, ([some (.inr (.inr 66)), some (.inl k), some (.inl x), some (.inl dp)], ([], (m, (none, (dy, L)))))) Q
  rcases (by omega : k = 0 ∨ k = 1 ∨ k = 2 ∨ k = 3 ∨ k = 4 ∨ k = 5 ∨ k = 6) with hk | hk | hk | hk | hk | hk | hk
  · subst hk
    refine v_iload_n (n := 1) xB_5 dX0_feeds_0 rfl rfl ?_
    refine v_tsw xB_5 dX0_feeds_1 rfl ?_
    refine ts_c (lo' := 3) rfl (fun g1 => ?_) (fun g1 => ?_)
    · refine jm_go (t := 36) (by decide) rfl ?_
      exfalso; omega
    refine ts_c (lo' := 4) rfl (fun g2 => ?_) (fun g2 => ?_)
    · refine jm_go (t := 116) (by decide) rfl ?_
      exfalso; omega
    refine ts_c (lo' := 5) rfl (fun g3 => ?_) (fun g3 => ?_)
    · refine jm_go (t := 62) (by decide) rfl ?_
      exfalso; omega
    refine ts_c (lo' := 6) rfl (fun g4 => ?_) (fun g4 => ?_)
    · refine jm_go (t := 36) (by decide) rfl ?_
      exfalso; omega
    refine ts_c (lo' := 7) rfl (fun g5 => ?_) (fun g5 => ?_)
    · refine jm_go (t := 87) (by decide) rfl ?_
      exfalso; omega
    refine ts_n ?_
    refine jm_go (t := 116) (by decide) rfl ?_
    refine v_aload_n (n := 117) xB_5 dX0_feeds_116 rfl rfl ?_
    refine v_bipush (n := 119) xB_5 dX0_feeds_117 ⟨by decide, by decide⟩ rfl ?_
    refine v_iload_n (n := 120) xB_5 dX0_feeds_119 rfl rfl ?_
    refine v_call_v (n := 123) xB_5 dX0_feeds_120 xO_5 iv_0_42 rfl (sh_66 _ _ _) rfl rfl rfl ?_
    refine k_begins (by omega) (by first | omega | (simp only [sA_same, sA_s, ud_s, Int.reduceEq, if_true, if_false, ite_true, ite_false, ↓reduceIte, and_true, true_and, eq_self, Int.add_zero, Int.reduceAdd]; omega) | (simp (disch := omega) only [sA_same, sA_ne, ud_eq, ud_ne, Int.add_zero, Int.reduceAdd]; omega)) (by first | omega | (simp only [sA_same, sA_s, ud_s, Int.reduceEq, if_true, if_false, ite_true, ite_false, ↓reduceIte, and_true, true_and, eq_self, Int.add_zero, Int.reduceAdd]; omega) | (simp (disch := omega) only [sA_same, sA_ne, ud_eq, ud_ne, Int.add_zero, Int.reduceAdd]; omega)) ?_
    (try simp (disch := omega) only [sA_same, sA_ne, sA_sA, sA_sr, sB_s, ud_eq, ud_ne, ud_ud, ud_sr, uB_s, Int.add_zero, Int.reduceAdd])
    refine v_if_eq_n (n := 126) xB_5 dX0_feeds_123 (by decide) rfl (by decide) ?_
    refine v_iload_n (n := 127) xB_5 dX0_feeds_126 rfl rfl ?_
    refine v_aload_n (n := 128) xB_5 dX0_feeds_127 rfl rfl ?_
    refine v_gf_i (n := 131) (kz := 2) xB_5 dX0_feeds_128 xO_5 fl_0_19 fg_0_2 rfl (sh_66 _ _ _) rfl rfl ?_
    refine v_iaddw (n := 132) xB_5 dX0_feeds_131 rfl ?_
    refine v_goto (t := 136) xB_5 dX0_feeds_132 (by decide) rfl ?_
    refine v_ireturn0 xB_5 dX0_feeds_136 xK_5 ?_
    exact o1
  · subst hk
    refine v_iload_n (n := 1) xB_5 dX0_feeds_0 rfl rfl ?_
    refine v_tsw xB_5 dX0_feeds_1 rfl ?_
    refine ts_c (lo' := 3) rfl (fun g1 => ?_) (fun g1 => ?_)
    · refine jm_go (t := 36) (by decide) rfl ?_
      exfalso; omega
    refine ts_c (lo' := 4) rfl (fun g2 => ?_) (fun g2 => ?_)
    · refine jm_go (t := 116) (by decide) rfl ?_
      exfalso; omega
    refine ts_c (lo' := 5) rfl (fun g3 => ?_) (fun g3 => ?_)
    · refine jm_go (t := 62) (by decide) rfl ?_
      exfalso; omega
    refine ts_c (lo' := 6) rfl (fun g4 => ?_) (fun g4 => ?_)
    · refine jm_go (t := 36) (by decide) rfl ?_
      exfalso; omega
    refine ts_c (lo' := 7) rfl (fun g5 => ?_) (fun g5 => ?_)
    · refine jm_go (t := 87) (by decide) rfl ?_
      exfalso; omega
    refine ts_n ?_
    refine jm_go (t := 116) (by decide) rfl ?_
    refine v_aload_n (n := 117) xB_5 dX0_feeds_116 rfl rfl ?_
    refine v_bipush (n := 119) xB_5 dX0_feeds_117 ⟨by decide, by decide⟩ rfl ?_
    refine v_iload_n (n := 120) xB_5 dX0_feeds_119 rfl rfl ?_
    refine v_call_v (n := 123) xB_5 dX0_feeds_120 xO_5 iv_0_42 rfl (sh_66 _ _ _) rfl rfl rfl ?_
    refine k_begins (by omega) (by first | omega | (simp only [sA_same, sA_s, ud_s, Int.reduceEq, if_true, if_false, ite_true, ite_false, ↓reduceIte, and_true, true_and, eq_self, Int.add_zero, Int.reduceAdd]; omega) | (simp (disch := omega) only [sA_same, sA_ne, ud_eq, ud_ne, Int.add_zero, Int.reduceAdd]; omega)) (by first | omega | (simp only [sA_same, sA_s, ud_s, Int.reduceEq, if_true, if_false, ite_true, ite_false, ↓reduceIte, and_true, true_and, eq_self, Int.add_zero, Int.reduceAdd]; omega) | (simp (disch := omega) only [sA_same, sA_ne, ud_eq, ud_ne, Int.add_zero, Int.reduceAdd]; omega)) ?_
    (try simp (disch := omega) only [sA_same, sA_ne, sA_sA, sA_sr, sB_s, ud_eq, ud_ne, ud_ud, ud_sr, uB_s, Int.add_zero, Int.reduceAdd])
    refine v_if_eq_n (n := 126) xB_5 dX0_feeds_123 (by decide) rfl (by decide) ?_
    refine v_iload_n (n := 127) xB_5 dX0_feeds_126 rfl rfl ?_
    refine v_aload_n (n := 128) xB_5 dX0_feeds_127 rfl rfl ?_
    refine v_gf_i (n := 131) (kz := 2) xB_5 dX0_feeds_128 xO_5 fl_0_19 fg_0_2 rfl (sh_66 _ _ _) rfl rfl ?_
    refine v_iaddw (n := 132) xB_5 dX0_feeds_131 rfl ?_
    refine v_goto (t := 136) xB_5 dX0_feeds_132 (by decide) rfl ?_
    refine v_ireturn0 xB_5 dX0_feeds_136 xK_5 ?_
    exact o1
  · subst hk
    refine v_iload_n (n := 1) xB_5 dX0_feeds_0 rfl rfl ?_
    refine v_tsw xB_5 dX0_feeds_1 rfl ?_
    refine ts_c (lo' := 3) rfl (fun g1 => ?_) (fun g1 => ?_)
    · refine jm_go (t := 36) (by decide) rfl ?_
      refine v_aload_n (n := 37) xB_5 dX0_feeds_36 rfl rfl ?_
      refine v_bipush (n := 39) xB_5 dX0_feeds_37 ⟨by decide, by decide⟩ rfl ?_
      refine v_iload_n (n := 40) xB_5 dX0_feeds_39 rfl rfl ?_
      refine v_call_v (n := 43) xB_5 dX0_feeds_40 xO_5 iv_0_42 rfl (sh_66 _ _ _) rfl rfl rfl ?_
      refine k_begins (by omega) (by first | omega | (simp only [sA_same, sA_s, ud_s, Int.reduceEq, if_true, if_false, ite_true, ite_false, ↓reduceIte, and_true, true_and, eq_self, Int.add_zero, Int.reduceAdd]; omega) | (simp (disch := omega) only [sA_same, sA_ne, ud_eq, ud_ne, Int.add_zero, Int.reduceAdd]; omega)) (by first | omega | (simp only [sA_same, sA_s, ud_s, Int.reduceEq, if_true, if_false, ite_true, ite_false, ↓reduceIte, and_true, true_and, eq_self, Int.add_zero, Int.reduceAdd]; omega) | (simp (disch := omega) only [sA_same, sA_ne, ud_eq, ud_ne, Int.add_zero, Int.reduceAdd]; omega)) ?_
      (try simp (disch := omega) only [sA_same, sA_ne, sA_sA, sA_sr, sB_s, ud_eq, ud_ne, ud_ud, ud_sr, uB_s, Int.add_zero, Int.reduceAdd])
      refine v_if_eq_n (n := 46) xB_5 dX0_feeds_43 (by decide) rfl (by decide) ?_
      refine v_aload_n (n := 47) xB_5 dX0_feeds_46 rfl rfl ?_
      refine v_iconst (n := 48) xB_5 dX0_feeds_47 ⟨by decide, by decide⟩ rfl ?_
      refine v_iload_n (n := 49) xB_5 dX0_feeds_48 rfl rfl ?_
      refine v_iconst (n := 50) xB_5 dX0_feeds_49 ⟨by decide, by decide⟩ rfl ?_
      refine v_imulw (n := 51) xB_5 dX0_feeds_50 rfl ?_
      refine v_iload_n (n := 52) xB_5 dX0_feeds_51 rfl rfl ?_
      refine v_iconst (n := 53) xB_5 dX0_feeds_52 ⟨by decide, by decide⟩ rfl ?_
      refine v_iadd (n := 54) xB_5 dX0_feeds_53 (by first | omega | (simp only [sA_same, sA_s, ud_s, Int.reduceEq, if_true, if_false, ite_true, ite_false, ↓reduceIte, and_true, true_and, eq_self, Int.add_zero, Int.reduceAdd]; omega) | (simp (disch := omega) only [sA_same, sA_ne, ud_eq, ud_ne, Int.add_zero, Int.reduceAdd]; omega)) rfl ?_
      refine v_call_v (n := 57) xB_5 dX0_feeds_54 xO_5 iv_0_32 rfl (sh_66 _ _ _) rfl rfl rfl ?_
      refine kf_D (by omega) (by first | omega | (simp only [sA_same, sA_s, ud_s, Int.reduceEq, if_true, if_false, ite_true, ite_false, ↓reduceIte, and_true, true_and, eq_self, Int.add_zero, Int.reduceAdd]; omega) | (simp (disch := omega) only [sA_same, sA_ne, ud_eq, ud_ne, Int.add_zero, Int.reduceAdd]; omega)) (by first | omega | (simp only [sA_same, sA_s, ud_s, Int.reduceEq, if_true, if_false, ite_true, ite_false, ↓reduceIte, and_true, true_and, eq_self, Int.add_zero, Int.reduceAdd]; omega) | (simp (disch := omega) only [sA_same, sA_ne, ud_eq, ud_ne, Int.add_zero, Int.reduceAdd]; omega)) (by first | omega | (simp only [sA_same, sA_s, ud_s, Int.reduceEq, if_true, if_false, ite_true, ite_false, ↓reduceIte, and_true, true_and, eq_self, Int.add_zero, Int.reduceAdd]; omega) | (simp (disch := omega) only [sA_same, sA_ne, ud_eq, ud_ne, Int.add_zero, Int.reduceAdd]; omega)) ?_
      (try simp (disch := omega) only [sA_same, sA_ne, sA_sA, sA_sr, sB_s, ud_eq, ud_ne, ud_ud, ud_sr, uB_s, Int.add_zero, Int.reduceAdd])
      refine v_goto (t := 61) xB_5 dX0_feeds_57 (by decide) rfl ?_
      refine v_ireturn0 xB_5 dX0_feeds_61 xK_5 ?_
      exact o1
    refine ts_c (lo' := 4) rfl (fun g2 => ?_) (fun g2 => ?_)
    · refine jm_go (t := 116) (by decide) rfl ?_
      exfalso; omega
    refine ts_c (lo' := 5) rfl (fun g3 => ?_) (fun g3 => ?_)
    · refine jm_go (t := 62) (by decide) rfl ?_
      exfalso; omega
    refine ts_c (lo' := 6) rfl (fun g4 => ?_) (fun g4 => ?_)
    · refine jm_go (t := 36) (by decide) rfl ?_
      exfalso; omega
    refine ts_c (lo' := 7) rfl (fun g5 => ?_) (fun g5 => ?_)
    · refine jm_go (t := 87) (by decide) rfl ?_
      exfalso; omega
    refine ts_n ?_
    refine jm_go (t := 116) (by decide) rfl ?_
    exfalso; omega
  · subst hk
    refine v_iload_n (n := 1) xB_5 dX0_feeds_0 rfl rfl ?_
    refine v_tsw xB_5 dX0_feeds_1 rfl ?_
    refine ts_c (lo' := 3) rfl (fun g1 => ?_) (fun g1 => ?_)
    · refine jm_go (t := 36) (by decide) rfl ?_
      exfalso; omega
    refine ts_c (lo' := 4) rfl (fun g2 => ?_) (fun g2 => ?_)
    · refine jm_go (t := 116) (by decide) rfl ?_
      refine v_aload_n (n := 117) xB_5 dX0_feeds_116 rfl rfl ?_
      refine v_bipush (n := 119) xB_5 dX0_feeds_117 ⟨by decide, by decide⟩ rfl ?_
      refine v_iload_n (n := 120) xB_5 dX0_feeds_119 rfl rfl ?_
      refine v_call_v (n := 123) xB_5 dX0_feeds_120 xO_5 iv_0_42 rfl (sh_66 _ _ _) rfl rfl rfl ?_
      refine k_begins (by omega) (by first | omega | (simp only [sA_same, sA_s, ud_s, Int.reduceEq, if_true, if_false, ite_true, ite_false, ↓reduceIte, and_true, true_and, eq_self, Int.add_zero, Int.reduceAdd]; omega) | (simp (disch := omega) only [sA_same, sA_ne, ud_eq, ud_ne, Int.add_zero, Int.reduceAdd]; omega)) (by first | omega | (simp only [sA_same, sA_s, ud_s, Int.reduceEq, if_true, if_false, ite_true, ite_false, ↓reduceIte, and_true, true_and, eq_self, Int.add_zero, Int.reduceAdd]; omega) | (simp (disch := omega) only [sA_same, sA_ne, ud_eq, ud_ne, Int.add_zero, Int.reduceAdd]; omega)) ?_
      (try simp (disch := omega) only [sA_same, sA_ne, sA_sA, sA_sr, sB_s, ud_eq, ud_ne, ud_ud, ud_sr, uB_s, Int.add_zero, Int.reduceAdd])
      refine v_if_eq_n (n := 126) xB_5 dX0_feeds_123 (by decide) rfl (by decide) ?_
      refine v_iload_n (n := 127) xB_5 dX0_feeds_126 rfl rfl ?_
      refine v_aload_n (n := 128) xB_5 dX0_feeds_127 rfl rfl ?_
      refine v_gf_i (n := 131) (kz := 2) xB_5 dX0_feeds_128 xO_5 fl_0_19 fg_0_2 rfl (sh_66 _ _ _) rfl rfl ?_
      refine v_iaddw (n := 132) xB_5 dX0_feeds_131 rfl ?_
      refine v_goto (t := 136) xB_5 dX0_feeds_132 (by decide) rfl ?_
      refine v_ireturn0 xB_5 dX0_feeds_136 xK_5 ?_
      exact o1
    refine ts_c (lo' := 5) rfl (fun g3 => ?_) (fun g3 => ?_)
    · refine jm_go (t := 62) (by decide) rfl ?_
      exfalso; omega
    refine ts_c (lo' := 6) rfl (fun g4 => ?_) (fun g4 => ?_)
    · refine jm_go (t := 36) (by decide) rfl ?_
      exfalso; omega
    refine ts_c (lo' := 7) rfl (fun g5 => ?_) (fun g5 => ?_)
    · refine jm_go (t := 87) (by decide) rfl ?_
      exfalso; omega
    refine ts_n ?_
    refine jm_go (t := 116) (by decide) rfl ?_
    exfalso; omega
  · subst hk
    refine v_iload_n (n := 1) xB_5 dX0_feeds_0 rfl rfl ?_
    refine v_tsw xB_5 dX0_feeds_1 rfl ?_
    refine ts_c (lo' := 3) rfl (fun g1 => ?_) (fun g1 => ?_)
    · refine jm_go (t := 36) (by decide) rfl ?_
      exfalso; omega
    refine ts_c (lo' := 4) rfl (fun g2 => ?_) (fun g2 => ?_)
    · refine jm_go (t := 116) (by decide) rfl ?_
      exfalso; omega
    refine ts_c (lo' := 5) rfl (fun g3 => ?_) (fun g3 => ?_)
    · refine jm_go (t := 62) (by decide) rfl ?_
      refine v_aload_n (n := 63) xB_5 dX0_feeds_62 rfl rfl ?_
      refine v_bipush (n := 65) xB_5 dX0_feeds_63 ⟨by decide, by decide⟩ rfl ?_
      refine v_iload_n (n := 66) xB_5 dX0_feeds_65 rfl rfl ?_
      refine v_call_v (n := 69) xB_5 dX0_feeds_66 xO_5 iv_0_42 rfl (sh_66 _ _ _) rfl rfl rfl ?_
      refine k_begins (by omega) (by first | omega | (simp only [sA_same, sA_s, ud_s, Int.reduceEq, if_true, if_false, ite_true, ite_false, ↓reduceIte, and_true, true_and, eq_self, Int.add_zero, Int.reduceAdd]; omega) | (simp (disch := omega) only [sA_same, sA_ne, ud_eq, ud_ne, Int.add_zero, Int.reduceAdd]; omega)) (by first | omega | (simp only [sA_same, sA_s, ud_s, Int.reduceEq, if_true, if_false, ite_true, ite_false, ↓reduceIte, and_true, true_and, eq_self, Int.add_zero, Int.reduceAdd]; omega) | (simp (disch := omega) only [sA_same, sA_ne, ud_eq, ud_ne, Int.add_zero, Int.reduceAdd]; omega)) ?_
      (try simp (disch := omega) only [sA_same, sA_ne, sA_sA, sA_sr, sB_s, ud_eq, ud_ne, ud_ud, ud_sr, uB_s, Int.add_zero, Int.reduceAdd])
      refine v_if_eq_n (n := 72) xB_5 dX0_feeds_69 (by decide) rfl (by decide) ?_
      refine v_aload_n (n := 73) xB_5 dX0_feeds_72 rfl rfl ?_
      refine v_iconst (n := 74) xB_5 dX0_feeds_73 ⟨by decide, by decide⟩ rfl ?_
      refine v_iload_n (n := 75) xB_5 dX0_feeds_74 rfl rfl ?_
      refine v_iload_n (n := 76) xB_5 dX0_feeds_75 rfl rfl ?_
      refine v_iconst (n := 77) xB_5 dX0_feeds_76 ⟨by decide, by decide⟩ rfl ?_
      refine v_iadd (n := 78) xB_5 dX0_feeds_77 (by first | omega | (simp only [sA_same, sA_s, ud_s, Int.reduceEq, if_true, if_false, ite_true, ite_false, ↓reduceIte, and_true, true_and, eq_self, Int.add_zero, Int.reduceAdd]; omega) | (simp (disch := omega) only [sA_same, sA_ne, ud_eq, ud_ne, Int.add_zero, Int.reduceAdd]; omega)) rfl ?_
      refine v_call_v (n := 81) xB_5 dX0_feeds_78 xO_5 iv_0_32 rfl (sh_66 _ _ _) rfl rfl rfl ?_
      refine kf_D (by omega) (by first | omega | (simp only [sA_same, sA_s, ud_s, Int.reduceEq, if_true, if_false, ite_true, ite_false, ↓reduceIte, and_true, true_and, eq_self, Int.add_zero, Int.reduceAdd]; omega) | (simp (disch := omega) only [sA_same, sA_ne, ud_eq, ud_ne, Int.add_zero, Int.reduceAdd]; omega)) (by first | omega | (simp only [sA_same, sA_s, ud_s, Int.reduceEq, if_true, if_false, ite_true, ite_false, ↓reduceIte, and_true, true_and, eq_self, Int.add_zero, Int.reduceAdd]; omega) | (simp (disch := omega) only [sA_same, sA_ne, ud_eq, ud_ne, Int.add_zero, Int.reduceAdd]; omega)) (by first | omega | (simp only [sA_same, sA_s, ud_s, Int.reduceEq, if_true, if_false, ite_true, ite_false, ↓reduceIte, and_true, true_and, eq_self, Int.add_zero, Int.reduceAdd]; omega) | (simp (disch := omega) only [sA_same, sA_ne, ud_eq, ud_ne, Int.add_zero, Int.reduceAdd]; omega)) ?_
      (try simp (disch := omega) only [sA_same, sA_ne, sA_sA, sA_sr, sB_s, ud_eq, ud_ne, ud_ud, ud_sr, uB_s, Int.add_zero, Int.reduceAdd])
      refine v_inegw (n := 82) xB_5 dX0_feeds_81 rfl ?_
      refine v_goto (t := 86) xB_5 dX0_feeds_82 (by decide) rfl ?_
      refine v_ireturn0 xB_5 dX0_feeds_86 xK_5 ?_
      exact o1
    refine ts_c (lo' := 6) rfl (fun g4 => ?_) (fun g4 => ?_)
    · refine jm_go (t := 36) (by decide) rfl ?_
      exfalso; omega
    refine ts_c (lo' := 7) rfl (fun g5 => ?_) (fun g5 => ?_)
    · refine jm_go (t := 87) (by decide) rfl ?_
      exfalso; omega
    refine ts_n ?_
    refine jm_go (t := 116) (by decide) rfl ?_
    exfalso; omega
  · subst hk
    refine v_iload_n (n := 1) xB_5 dX0_feeds_0 rfl rfl ?_
    refine v_tsw xB_5 dX0_feeds_1 rfl ?_
    refine ts_c (lo' := 3) rfl (fun g1 => ?_) (fun g1 => ?_)
    · refine jm_go (t := 36) (by decide) rfl ?_
      exfalso; omega
    refine ts_c (lo' := 4) rfl (fun g2 => ?_) (fun g2 => ?_)
    · refine jm_go (t := 116) (by decide) rfl ?_
      exfalso; omega
    refine ts_c (lo' := 5) rfl (fun g3 => ?_) (fun g3 => ?_)
    · refine jm_go (t := 62) (by decide) rfl ?_
      exfalso; omega
    refine ts_c (lo' := 6) rfl (fun g4 => ?_) (fun g4 => ?_)
    · refine jm_go (t := 36) (by decide) rfl ?_
      refine v_aload_n (n := 37) xB_5 dX0_feeds_36 rfl rfl ?_
      refine v_bipush (n := 39) xB_5 dX0_feeds_37 ⟨by decide, by decide⟩ rfl ?_
      refine v_iload_n (n := 40) xB_5 dX0_feeds_39 rfl rfl ?_
      refine v_call_v (n := 43) xB_5 dX0_feeds_40 xO_5 iv_0_42 rfl (sh_66 _ _ _) rfl rfl rfl ?_
      refine k_begins (by omega) (by first | omega | (simp only [sA_same, sA_s, ud_s, Int.reduceEq, if_true, if_false, ite_true, ite_false, ↓reduceIte, and_true, true_and, eq_self, Int.add_zero, Int.reduceAdd]; omega) | (simp (disch := omega) only [sA_same, sA_ne, ud_eq, ud_ne, Int.add_zero, Int.reduceAdd]; omega)) (by first | omega | (simp only [sA_same, sA_s, ud_s, Int.reduceEq, if_true, if_false, ite_true, ite_false, ↓reduceIte, and_true, true_and, eq_self, Int.add_zero, Int.reduceAdd]; omega) | (simp (disch := omega) only [sA_same, sA_ne, ud_eq, ud_ne, Int.add_zero, Int.reduceAdd]; omega)) ?_
      (try simp (disch := omega) only [sA_same, sA_ne, sA_sA, sA_sr, sB_s, ud_eq, ud_ne, ud_ud, ud_sr, uB_s, Int.add_zero, Int.reduceAdd])
      refine v_if_eq_n (n := 46) xB_5 dX0_feeds_43 (by decide) rfl (by decide) ?_
      refine v_aload_n (n := 47) xB_5 dX0_feeds_46 rfl rfl ?_
      refine v_iconst (n := 48) xB_5 dX0_feeds_47 ⟨by decide, by decide⟩ rfl ?_
      refine v_iload_n (n := 49) xB_5 dX0_feeds_48 rfl rfl ?_
      refine v_iconst (n := 50) xB_5 dX0_feeds_49 ⟨by decide, by decide⟩ rfl ?_
      refine v_imulw (n := 51) xB_5 dX0_feeds_50 rfl ?_
      refine v_iload_n (n := 52) xB_5 dX0_feeds_51 rfl rfl ?_
      refine v_iconst (n := 53) xB_5 dX0_feeds_52 ⟨by decide, by decide⟩ rfl ?_
      refine v_iadd (n := 54) xB_5 dX0_feeds_53 (by first | omega | (simp only [sA_same, sA_s, ud_s, Int.reduceEq, if_true, if_false, ite_true, ite_false, ↓reduceIte, and_true, true_and, eq_self, Int.add_zero, Int.reduceAdd]; omega) | (simp (disch := omega) only [sA_same, sA_ne, ud_eq, ud_ne, Int.add_zero, Int.reduceAdd]; omega)) rfl ?_
      refine v_call_v (n := 57) xB_5 dX0_feeds_54 xO_5 iv_0_32 rfl (sh_66 _ _ _) rfl rfl rfl ?_
      refine kf_D (by omega) (by first | omega | (simp only [sA_same, sA_s, ud_s, Int.reduceEq, if_true, if_false, ite_true, ite_false, ↓reduceIte, and_true, true_and, eq_self, Int.add_zero, Int.reduceAdd]; omega) | (simp (disch := omega) only [sA_same, sA_ne, ud_eq, ud_ne, Int.add_zero, Int.reduceAdd]; omega)) (by first | omega | (simp only [sA_same, sA_s, ud_s, Int.reduceEq, if_true, if_false, ite_true, ite_false, ↓reduceIte, and_true, true_and, eq_self, Int.add_zero, Int.reduceAdd]; omega) | (simp (disch := omega) only [sA_same, sA_ne, ud_eq, ud_ne, Int.add_zero, Int.reduceAdd]; omega)) (by first | omega | (simp only [sA_same, sA_s, ud_s, Int.reduceEq, if_true, if_false, ite_true, ite_false, ↓reduceIte, and_true, true_and, eq_self, Int.add_zero, Int.reduceAdd]; omega) | (simp (disch := omega) only [sA_same, sA_ne, ud_eq, ud_ne, Int.add_zero, Int.reduceAdd]; omega)) ?_
      (try simp (disch := omega) only [sA_same, sA_ne, sA_sA, sA_sr, sB_s, ud_eq, ud_ne, ud_ud, ud_sr, uB_s, Int.add_zero, Int.reduceAdd])
      refine v_goto (t := 61) xB_5 dX0_feeds_57 (by decide) rfl ?_
      refine v_ireturn0 xB_5 dX0_feeds_61 xK_5 ?_
      exact o1
    refine ts_c (lo' := 7) rfl (fun g5 => ?_) (fun g5 => ?_)
    · refine jm_go (t := 87) (by decide) rfl ?_
      exfalso; omega
    refine ts_n ?_
    refine jm_go (t := 116) (by decide) rfl ?_
    exfalso; omega
  · subst hk
    refine v_iload_n (n := 1) xB_5 dX0_feeds_0 rfl rfl ?_
    refine v_tsw xB_5 dX0_feeds_1 rfl ?_
    refine ts_c (lo' := 3) rfl (fun g1 => ?_) (fun g1 => ?_)
    · refine jm_go (t := 36) (by decide) rfl ?_
      exfalso; omega
    refine ts_c (lo' := 4) rfl (fun g2 => ?_) (fun g2 => ?_)
    · refine jm_go (t := 116) (by decide) rfl ?_
      exfalso; omega
    refine ts_c (lo' := 5) rfl (fun g3 => ?_) (fun g3 => ?_)
    · refine jm_go (t := 62) (by decide) rfl ?_
      exfalso; omega
    refine ts_c (lo' := 6) rfl (fun g4 => ?_) (fun g4 => ?_)
    · refine jm_go (t := 36) (by decide) rfl ?_
      exfalso; omega
    refine ts_c (lo' := 7) rfl (fun g5 => ?_) (fun g5 => ?_)
    · refine jm_go (t := 87) (by decide) rfl ?_
      refine v_aload_n (n := 88) xB_5 dX0_feeds_87 rfl rfl ?_
      refine v_bipush (n := 90) xB_5 dX0_feeds_88 ⟨by decide, by decide⟩ rfl ?_
      refine v_iload_n (n := 91) xB_5 dX0_feeds_90 rfl rfl ?_
      refine v_call_v (n := 94) xB_5 dX0_feeds_91 xO_5 iv_0_42 rfl (sh_66 _ _ _) rfl rfl rfl ?_
      refine k_begins (by omega) (by first | omega | (simp only [sA_same, sA_s, ud_s, Int.reduceEq, if_true, if_false, ite_true, ite_false, ↓reduceIte, and_true, true_and, eq_self, Int.add_zero, Int.reduceAdd]; omega) | (simp (disch := omega) only [sA_same, sA_ne, ud_eq, ud_ne, Int.add_zero, Int.reduceAdd]; omega)) (by first | omega | (simp only [sA_same, sA_s, ud_s, Int.reduceEq, if_true, if_false, ite_true, ite_false, ↓reduceIte, and_true, true_and, eq_self, Int.add_zero, Int.reduceAdd]; omega) | (simp (disch := omega) only [sA_same, sA_ne, ud_eq, ud_ne, Int.add_zero, Int.reduceAdd]; omega)) ?_
      (try simp (disch := omega) only [sA_same, sA_ne, sA_sA, sA_sr, sB_s, ud_eq, ud_ne, ud_ud, ud_sr, uB_s, Int.add_zero, Int.reduceAdd])
      refine v_if_eq_n (n := 97) xB_5 dX0_feeds_94 (by decide) rfl (by decide) ?_
      refine v_aload_n (n := 98) xB_5 dX0_feeds_97 rfl rfl ?_
      refine v_iconst (n := 99) xB_5 dX0_feeds_98 ⟨by decide, by decide⟩ rfl ?_
      refine v_iload_n (n := 100) xB_5 dX0_feeds_99 rfl rfl ?_
      refine v_iload_n (n := 101) xB_5 dX0_feeds_100 rfl rfl ?_
      refine v_iconst (n := 102) xB_5 dX0_feeds_101 ⟨by decide, by decide⟩ rfl ?_
      refine v_iadd (n := 103) xB_5 dX0_feeds_102 (by first | omega | (simp only [sA_same, sA_s, ud_s, Int.reduceEq, if_true, if_false, ite_true, ite_false, ↓reduceIte, and_true, true_and, eq_self, Int.add_zero, Int.reduceAdd]; omega) | (simp (disch := omega) only [sA_same, sA_ne, ud_eq, ud_ne, Int.add_zero, Int.reduceAdd]; omega)) rfl ?_
      refine v_call_v (n := 106) xB_5 dX0_feeds_103 xO_5 iv_0_32 rfl (sh_66 _ _ _) rfl rfl rfl ?_
      refine kf_D (by omega) (by first | omega | (simp only [sA_same, sA_s, ud_s, Int.reduceEq, if_true, if_false, ite_true, ite_false, ↓reduceIte, and_true, true_and, eq_self, Int.add_zero, Int.reduceAdd]; omega) | (simp (disch := omega) only [sA_same, sA_ne, ud_eq, ud_ne, Int.add_zero, Int.reduceAdd]; omega)) (by first | omega | (simp only [sA_same, sA_s, ud_s, Int.reduceEq, if_true, if_false, ite_true, ite_false, ↓reduceIte, and_true, true_and, eq_self, Int.add_zero, Int.reduceAdd]; omega) | (simp (disch := omega) only [sA_same, sA_ne, ud_eq, ud_ne, Int.add_zero, Int.reduceAdd]; omega)) (by first | omega | (simp only [sA_same, sA_s, ud_s, Int.reduceEq, if_true, if_false, ite_true, ite_false, ↓reduceIte, and_true, true_and, eq_self, Int.add_zero, Int.reduceAdd]; omega) | (simp (disch := omega) only [sA_same, sA_ne, ud_eq, ud_ne, Int.add_zero, Int.reduceAdd]; omega)) ?_
      (try simp (disch := omega) only [sA_same, sA_ne, sA_sA, sA_sr, sB_s, ud_eq, ud_ne, ud_ud, ud_sr, uB_s, Int.add_zero, Int.reduceAdd])
      refine v_aload_n (n := 107) xB_5 dX0_feeds_106 rfl rfl ?_
      refine v_gf_i (n := 110) (kz := 4) xB_5 dX0_feeds_107 xO_5 fl_0_31 fg_0_4 rfl (sh_66 _ _ _) rfl rfl ?_
      refine v_ixor (n := 111) xB_5 dX0_feeds_110 rfl ?_
      refine v_goto (t := 115) xB_5 dX0_feeds_111 (by decide) rfl ?_
      refine v_ireturn0 xB_5 dX0_feeds_115 xK_5 ?_
      exact o1
    refine ts_n ?_
    refine jm_go (t := 116) (by decide) rfl ?_
    exfalso; omega
set_option maxHeartbeats 1000000 in
theorem kp_D {d : Nat} {k x dp : Int} {m : PM} {dy : List (Nat × Nat)} {L : Nat} {Q : Option PV → PS → Prop} (hd : 4 ≤ d) (hr : 0 ≤ m 66 1 ∧ m 66 1 + 3 ≤ 20) (hdp : 0 ≤ dp ∧ dp ≤ 16) (hk : k = 0 ∨ k = 3 ∨ k = 2 ∨ k = 5) (h3 : 0 ≤ m 66 3 ∧ m 66 3 ≤ 6) (o1 : Q (some (.inl (tpV (m 66 3) (m 66 2) (m 66 4) x))) (setA (setA m 66 (ud (m 66) 1 (rsL (m 66 1) (11 :: fL (m 66 3))))) 67 (ap (m 67) (m 66 1) (11 :: fL (m 66 3))), (none, (dy, L)))) : C d 6 [.inr (.inr 66), .inl k, .inl x, .inl dp] (m, (none, (dy, L))) Q := by
  refine C_go (k := 3) hd xL_6 (fun d hd => ?_)
  show V d 6 (0, ([some (.inr (.inr 66)), some (.inl k), some (.inl x), some (.inl dp)], ([], (m, (none, (dy, L)))))) Q
  rcases (by omega : k = 0 ∨ k = 3 ∨ k = 2 ∨ k = 5) with hk | hk | hk | hk
  · subst hk
    refine v_iload_n (n := 1) xB_6 dX0_prints_0 rfl rfl ?_
    refine v_lsw xB_6 dX0_prints_1 rfl ?_
    refine lsp_c (fun g1 => ?_) (fun g1 => ?_)
    · refine jm_go (t := 36) (by decide) rfl ?_
      exfalso; omega
    refine lsp_c (fun g2 => ?_) (fun g2 => ?_)
    · refine jm_go (t := 63) (by decide) rfl ?_
      exfalso; omega
    refine lsp_c (fun g3 => ?_) (fun g3 => ?_)
    · refine jm_go (t := 89) (by decide) rfl ?_
      exfalso; omega
    refine lsp_n ?_
    refine jm_go (t := 123) (by decide) rfl ?_
    refine v_aload_n (n := 124) xB_6 dX0_prints_123 rfl rfl ?_
    refine v_bipush (n := 126) xB_6 dX0_prints_124 ⟨by decide, by decide⟩ rfl ?_
    refine v_iload_n (n := 127) xB_6 dX0_prints_126 rfl rfl ?_
    refine v_call_v (n := 130) xB_6 dX0_prints_127 xO_6 iv_0_42 rfl (sh_66 _ _ _) rfl rfl rfl ?_
    refine k_begins (by omega) (by first | omega | (simp only [sA_same, sA_s, ud_s, Int.reduceEq, if_true, if_false, ite_true, ite_false, ↓reduceIte, and_true, true_and, eq_self, Int.add_zero, Int.reduceAdd]; omega) | (simp (disch := omega) only [sA_same, sA_ne, ud_eq, ud_ne, Int.add_zero, Int.reduceAdd]; omega)) (by first | omega | (simp only [sA_same, sA_s, ud_s, Int.reduceEq, if_true, if_false, ite_true, ite_false, ↓reduceIte, and_true, true_and, eq_self, Int.add_zero, Int.reduceAdd]; omega) | (simp (disch := omega) only [sA_same, sA_ne, ud_eq, ud_ne, Int.add_zero, Int.reduceAdd]; omega)) ?_
    (try simp (disch := omega) only [sA_same, sA_ne, sA_sA, sA_sr, sB_s, ud_eq, ud_ne, ud_ud, ud_sr, uB_s, Int.add_zero, Int.reduceAdd])
    refine v_if_eq_n (n := 133) xB_6 dX0_prints_130 (by decide) rfl (by decide) ?_
    refine v_aload_n (n := 134) xB_6 dX0_prints_133 rfl rfl ?_
    refine v_aload_n (n := 135) xB_6 dX0_prints_134 rfl rfl ?_
    refine v_gf_i (n := 138) (kz := 3) xB_6 dX0_prints_135 xO_6 fl_0_27 fg_0_3 rfl (sh_66 _ _ _) rfl rfl ?_
    refine v_iload_n (n := 139) xB_6 dX0_prints_138 rfl rfl ?_
    refine v_iload_n (n := 140) xB_6 dX0_prints_139 rfl rfl ?_
    refine v_iconst (n := 141) xB_6 dX0_prints_140 ⟨by decide, by decide⟩ rfl ?_
    refine v_iadd (n := 142) xB_6 dX0_prints_141 (by first | omega | (simp only [sA_same, sA_s, ud_s, Int.reduceEq, if_true, if_false, ite_true, ite_false, ↓reduceIte, and_true, true_and, eq_self, Int.add_zero, Int.reduceAdd]; omega) | (simp (disch := omega) only [sA_same, sA_ne, ud_eq, ud_ne, Int.add_zero, Int.reduceAdd]; omega)) rfl ?_
    refine v_call_v (n := 145) xB_6 dX0_prints_142 xO_6 iv_0_32 rfl (sh_66 _ _ _) rfl rfl rfl ?_
    refine k_feeds (by omega) (by first | omega | (simp only [sA_same, sA_s, ud_s, Int.reduceEq, if_true, if_false, ite_true, ite_false, ↓reduceIte, and_true, true_and, eq_self, Int.add_zero, Int.reduceAdd]; omega) | (simp (disch := omega) only [sA_same, sA_ne, ud_eq, ud_ne, Int.add_zero, Int.reduceAdd]; omega)) (by first | omega | (simp only [sA_same, sA_s, ud_s, Int.reduceEq, if_true, if_false, ite_true, ite_false, ↓reduceIte, and_true, true_and, eq_self, Int.add_zero, Int.reduceAdd]; omega) | (simp (disch := omega) only [sA_same, sA_ne, ud_eq, ud_ne, Int.add_zero, Int.reduceAdd]; omega)) (by first | omega | (simp only [sA_same, sA_s, ud_s, Int.reduceEq, if_true, if_false, ite_true, ite_false, ↓reduceIte, and_true, true_and, eq_self, Int.add_zero, Int.reduceAdd]; omega) | (simp (disch := omega) only [sA_same, sA_ne, ud_eq, ud_ne, Int.add_zero, Int.reduceAdd]; omega)) ?_
    (try simp (disch := omega) only [sA_same, sA_ne, sA_sA, sA_sr, sB_s, ud_eq, ud_ne, ud_ud, ud_sr, uB_s, Int.add_zero, Int.reduceAdd])
    refine v_aload_n (n := 146) xB_6 dX0_prints_145 rfl rfl ?_
    refine v_gf_i (n := 149) (kz := 4) xB_6 dX0_prints_146 xO_6 fl_0_31 fg_0_4 rfl (sh_66 _ _ _) rfl rfl ?_
    refine v_isubw (n := 150) xB_6 dX0_prints_149 rfl ?_
    refine v_goto (t := 154) xB_6 dX0_prints_150 (by decide) rfl ?_
    refine v_ireturn0 xB_6 dX0_prints_154 xK_6 ?_
    exact o1
  · subst hk
    refine v_iload_n (n := 1) xB_6 dX0_prints_0 rfl rfl ?_
    refine v_lsw xB_6 dX0_prints_1 rfl ?_
    refine lsp_c (fun g1 => ?_) (fun g1 => ?_)
    · refine jm_go (t := 36) (by decide) rfl ?_
      exfalso; omega
    refine lsp_c (fun g2 => ?_) (fun g2 => ?_)
    · refine jm_go (t := 63) (by decide) rfl ?_
      exfalso; omega
    refine lsp_c (fun g3 => ?_) (fun g3 => ?_)
    · refine jm_go (t := 89) (by decide) rfl ?_
      exfalso; omega
    refine lsp_n ?_
    refine jm_go (t := 123) (by decide) rfl ?_
    refine v_aload_n (n := 124) xB_6 dX0_prints_123 rfl rfl ?_
    refine v_bipush (n := 126) xB_6 dX0_prints_124 ⟨by decide, by decide⟩ rfl ?_
    refine v_iload_n (n := 127) xB_6 dX0_prints_126 rfl rfl ?_
    refine v_call_v (n := 130) xB_6 dX0_prints_127 xO_6 iv_0_42 rfl (sh_66 _ _ _) rfl rfl rfl ?_
    refine k_begins (by omega) (by first | omega | (simp only [sA_same, sA_s, ud_s, Int.reduceEq, if_true, if_false, ite_true, ite_false, ↓reduceIte, and_true, true_and, eq_self, Int.add_zero, Int.reduceAdd]; omega) | (simp (disch := omega) only [sA_same, sA_ne, ud_eq, ud_ne, Int.add_zero, Int.reduceAdd]; omega)) (by first | omega | (simp only [sA_same, sA_s, ud_s, Int.reduceEq, if_true, if_false, ite_true, ite_false, ↓reduceIte, and_true, true_and, eq_self, Int.add_zero, Int.reduceAdd]; omega) | (simp (disch := omega) only [sA_same, sA_ne, ud_eq, ud_ne, Int.add_zero, Int.reduceAdd]; omega)) ?_
    (try simp (disch := omega) only [sA_same, sA_ne, sA_sA, sA_sr, sB_s, ud_eq, ud_ne, ud_ud, ud_sr, uB_s, Int.add_zero, Int.reduceAdd])
    refine v_if_eq_n (n := 133) xB_6 dX0_prints_130 (by decide) rfl (by decide) ?_
    refine v_aload_n (n := 134) xB_6 dX0_prints_133 rfl rfl ?_
    refine v_aload_n (n := 135) xB_6 dX0_prints_134 rfl rfl ?_
    refine v_gf_i (n := 138) (kz := 3) xB_6 dX0_prints_135 xO_6 fl_0_27 fg_0_3 rfl (sh_66 _ _ _) rfl rfl ?_
    refine v_iload_n (n := 139) xB_6 dX0_prints_138 rfl rfl ?_
    refine v_iload_n (n := 140) xB_6 dX0_prints_139 rfl rfl ?_
    refine v_iconst (n := 141) xB_6 dX0_prints_140 ⟨by decide, by decide⟩ rfl ?_
    refine v_iadd (n := 142) xB_6 dX0_prints_141 (by first | omega | (simp only [sA_same, sA_s, ud_s, Int.reduceEq, if_true, if_false, ite_true, ite_false, ↓reduceIte, and_true, true_and, eq_self, Int.add_zero, Int.reduceAdd]; omega) | (simp (disch := omega) only [sA_same, sA_ne, ud_eq, ud_ne, Int.add_zero, Int.reduceAdd]; omega)) rfl ?_
    refine v_call_v (n := 145) xB_6 dX0_prints_142 xO_6 iv_0_32 rfl (sh_66 _ _ _) rfl rfl rfl ?_
    refine k_feeds (by omega) (by first | omega | (simp only [sA_same, sA_s, ud_s, Int.reduceEq, if_true, if_false, ite_true, ite_false, ↓reduceIte, and_true, true_and, eq_self, Int.add_zero, Int.reduceAdd]; omega) | (simp (disch := omega) only [sA_same, sA_ne, ud_eq, ud_ne, Int.add_zero, Int.reduceAdd]; omega)) (by first | omega | (simp only [sA_same, sA_s, ud_s, Int.reduceEq, if_true, if_false, ite_true, ite_false, ↓reduceIte, and_true, true_and, eq_self, Int.add_zero, Int.reduceAdd]; omega) | (simp (disch := omega) only [sA_same, sA_ne, ud_eq, ud_ne, Int.add_zero, Int.reduceAdd]; omega)) (by first | omega | (simp only [sA_same, sA_s, ud_s, Int.reduceEq, if_true, if_false, ite_true, ite_false, ↓reduceIte, and_true, true_and, eq_self, Int.add_zero, Int.reduceAdd]; omega) | (simp (disch := omega) only [sA_same, sA_ne, ud_eq, ud_ne, Int.add_zero, Int.reduceAdd]; omega)) ?_
    (try simp (disch := omega) only [sA_same, sA_ne, sA_sA, sA_sr, sB_s, ud_eq, ud_ne, ud_ud, ud_sr, uB_s, Int.add_zero, Int.reduceAdd])
    refine v_aload_n (n := 146) xB_6 dX0_prints_145 rfl rfl ?_
    refine v_gf_i (n := 149) (kz := 4) xB_6 dX0_prints_146 xO_6 fl_0_31 fg_0_4 rfl (sh_66 _ _ _) rfl rfl ?_
    refine v_isubw (n := 150) xB_6 dX0_prints_149 rfl ?_
    refine v_goto (t := 154) xB_6 dX0_prints_150 (by decide) rfl ?_
    refine v_ireturn0 xB_6 dX0_prints_154 xK_6 ?_
    exact o1
  · subst hk
    refine v_iload_n (n := 1) xB_6 dX0_prints_0 rfl rfl ?_
    refine v_lsw xB_6 dX0_prints_1 rfl ?_
    refine lsp_c (fun g1 => ?_) (fun g1 => ?_)
    · refine jm_go (t := 36) (by decide) rfl ?_
      exfalso; omega
    refine lsp_c (fun g2 => ?_) (fun g2 => ?_)
    · refine jm_go (t := 63) (by decide) rfl ?_
      exfalso; omega
    refine lsp_c (fun g3 => ?_) (fun g3 => ?_)
    · refine jm_go (t := 89) (by decide) rfl ?_
      exfalso; omega
    refine lsp_n ?_
    refine jm_go (t := 123) (by decide) rfl ?_
    refine v_aload_n (n := 124) xB_6 dX0_prints_123 rfl rfl ?_
    refine v_bipush (n := 126) xB_6 dX0_prints_124 ⟨by decide, by decide⟩ rfl ?_
    refine v_iload_n (n := 127) xB_6 dX0_prints_126 rfl rfl ?_
    refine v_call_v (n := 130) xB_6 dX0_prints_127 xO_6 iv_0_42 rfl (sh_66 _ _ _) rfl rfl rfl ?_
    refine k_begins (by omega) (by first | omega | (simp only [sA_same, sA_s, ud_s, Int.reduceEq, if_true, if_false, ite_true, ite_false, ↓reduceIte, and_true, true_and, eq_self, Int.add_zero, Int.reduceAdd]; omega) | (simp (disch := omega) only [sA_same, sA_ne, ud_eq, ud_ne, Int.add_zero, Int.reduceAdd]; omega)) (by first | omega | (simp only [sA_same, sA_s, ud_s, Int.reduceEq, if_true, if_false, ite_true, ite_false, ↓reduceIte, and_true, true_and, eq_self, Int.add_zero, Int.reduceAdd]; omega) | (simp (disch := omega) only [sA_same, sA_ne, ud_eq, ud_ne, Int.add_zero, Int.reduceAdd]; omega)) ?_
    (try simp (disch := omega) only [sA_same, sA_ne, sA_sA, sA_sr, sB_s, ud_eq, ud_ne, ud_ud, ud_sr, uB_s, Int.add_zero, Int.reduceAdd])
    refine v_if_eq_n (n := 133) xB_6 dX0_prints_130 (by decide) rfl (by decide) ?_
    refine v_aload_n (n := 134) xB_6 dX0_prints_133 rfl rfl ?_
    refine v_aload_n (n := 135) xB_6 dX0_prints_134 rfl rfl ?_
    refine v_gf_i (n := 138) (kz := 3) xB_6 dX0_prints_135 xO_6 fl_0_27 fg_0_3 rfl (sh_66 _ _ _) rfl rfl ?_
    refine v_iload_n (n := 139) xB_6 dX0_prints_138 rfl rfl ?_
    refine v_iload_n (n := 140) xB_6 dX0_prints_139 rfl rfl ?_
    refine v_iconst (n := 141) xB_6 dX0_prints_140 ⟨by decide, by decide⟩ rfl ?_
    refine v_iadd (n := 142) xB_6 dX0_prints_141 (by first | omega | (simp only [sA_same, sA_s, ud_s, Int.reduceEq, if_true, if_false, ite_true, ite_false, ↓reduceIte, and_true, true_and, eq_self, Int.add_zero, Int.reduceAdd]; omega) | (simp (disch := omega) only [sA_same, sA_ne, ud_eq, ud_ne, Int.add_zero, Int.reduceAdd]; omega)) rfl ?_
    refine v_call_v (n := 145) xB_6 dX0_prints_142 xO_6 iv_0_32 rfl (sh_66 _ _ _) rfl rfl rfl ?_
    refine k_feeds (by omega) (by first | omega | (simp only [sA_same, sA_s, ud_s, Int.reduceEq, if_true, if_false, ite_true, ite_false, ↓reduceIte, and_true, true_and, eq_self, Int.add_zero, Int.reduceAdd]; omega) | (simp (disch := omega) only [sA_same, sA_ne, ud_eq, ud_ne, Int.add_zero, Int.reduceAdd]; omega)) (by first | omega | (simp only [sA_same, sA_s, ud_s, Int.reduceEq, if_true, if_false, ite_true, ite_false, ↓reduceIte, and_true, true_and, eq_self, Int.add_zero, Int.reduceAdd]; omega) | (simp (disch := omega) only [sA_same, sA_ne, ud_eq, ud_ne, Int.add_zero, Int.reduceAdd]; omega)) (by first | omega | (simp only [sA_same, sA_s, ud_s, Int.reduceEq, if_true, if_false, ite_true, ite_false, ↓reduceIte, and_true, true_and, eq_self, Int.add_zero, Int.reduceAdd]; omega) | (simp (disch := omega) only [sA_same, sA_ne, ud_eq, ud_ne, Int.add_zero, Int.reduceAdd]; omega)) ?_
    (try simp (disch := omega) only [sA_same, sA_ne, sA_sA, sA_sr, sB_s, ud_eq, ud_ne, ud_ud, ud_sr, uB_s, Int.add_zero, Int.reduceAdd])
    refine v_aload_n (n := 146) xB_6 dX0_prints_145 rfl rfl ?_
    refine v_gf_i (n := 149) (kz := 4) xB_6 dX0_prints_146 xO_6 fl_0_31 fg_0_4 rfl (sh_66 _ _ _) rfl rfl ?_
    refine v_isubw (n := 150) xB_6 dX0_prints_149 rfl ?_
    refine v_goto (t := 154) xB_6 dX0_prints_150 (by decide) rfl ?_
    refine v_ireturn0 xB_6 dX0_prints_154 xK_6 ?_
    exact o1
  · subst hk
    refine v_iload_n (n := 1) xB_6 dX0_prints_0 rfl rfl ?_
    refine v_lsw xB_6 dX0_prints_1 rfl ?_
    refine lsp_c (fun g1 => ?_) (fun g1 => ?_)
    · refine jm_go (t := 36) (by decide) rfl ?_
      exfalso; omega
    refine lsp_c (fun g2 => ?_) (fun g2 => ?_)
    · refine jm_go (t := 63) (by decide) rfl ?_
      exfalso; omega
    refine lsp_c (fun g3 => ?_) (fun g3 => ?_)
    · refine jm_go (t := 89) (by decide) rfl ?_
      exfalso; omega
    refine lsp_n ?_
    refine jm_go (t := 123) (by decide) rfl ?_
    refine v_aload_n (n := 124) xB_6 dX0_prints_123 rfl rfl ?_
    refine v_bipush (n := 126) xB_6 dX0_prints_124 ⟨by decide, by decide⟩ rfl ?_
    refine v_iload_n (n := 127) xB_6 dX0_prints_126 rfl rfl ?_
    refine v_call_v (n := 130) xB_6 dX0_prints_127 xO_6 iv_0_42 rfl (sh_66 _ _ _) rfl rfl rfl ?_
    refine k_begins (by omega) (by first | omega | (simp only [sA_same, sA_s, ud_s, Int.reduceEq, if_true, if_false, ite_true, ite_false, ↓reduceIte, and_true, true_and, eq_self, Int.add_zero, Int.reduceAdd]; omega) | (simp (disch := omega) only [sA_same, sA_ne, ud_eq, ud_ne, Int.add_zero, Int.reduceAdd]; omega)) (by first | omega | (simp only [sA_same, sA_s, ud_s, Int.reduceEq, if_true, if_false, ite_true, ite_false, ↓reduceIte, and_true, true_and, eq_self, Int.add_zero, Int.reduceAdd]; omega) | (simp (disch := omega) only [sA_same, sA_ne, ud_eq, ud_ne, Int.add_zero, Int.reduceAdd]; omega)) ?_
    (try simp (disch := omega) only [sA_same, sA_ne, sA_sA, sA_sr, sB_s, ud_eq, ud_ne, ud_ud, ud_sr, uB_s, Int.add_zero, Int.reduceAdd])
    refine v_if_eq_n (n := 133) xB_6 dX0_prints_130 (by decide) rfl (by decide) ?_
    refine v_aload_n (n := 134) xB_6 dX0_prints_133 rfl rfl ?_
    refine v_aload_n (n := 135) xB_6 dX0_prints_134 rfl rfl ?_
    refine v_gf_i (n := 138) (kz := 3) xB_6 dX0_prints_135 xO_6 fl_0_27 fg_0_3 rfl (sh_66 _ _ _) rfl rfl ?_
    refine v_iload_n (n := 139) xB_6 dX0_prints_138 rfl rfl ?_
    refine v_iload_n (n := 140) xB_6 dX0_prints_139 rfl rfl ?_
    refine v_iconst (n := 141) xB_6 dX0_prints_140 ⟨by decide, by decide⟩ rfl ?_
    refine v_iadd (n := 142) xB_6 dX0_prints_141 (by first | omega | (simp only [sA_same, sA_s, ud_s, Int.reduceEq, if_true, if_false, ite_true, ite_false, ↓reduceIte, and_true, true_and, eq_self, Int.add_zero, Int.reduceAdd]; omega) | (simp (disch := omega) only [sA_same, sA_ne, ud_eq, ud_ne, Int.add_zero, Int.reduceAdd]; omega)) rfl ?_
    refine v_call_v (n := 145) xB_6 dX0_prints_142 xO_6 iv_0_32 rfl (sh_66 _ _ _) rfl rfl rfl ?_
    refine k_feeds (by omega) (by first | omega | (simp only [sA_same, sA_s, ud_s, Int.reduceEq, if_true, if_false, ite_true, ite_false, ↓reduceIte, and_true, true_and, eq_self, Int.add_zero, Int.reduceAdd]; omega) | (simp (disch := omega) only [sA_same, sA_ne, ud_eq, ud_ne, Int.add_zero, Int.reduceAdd]; omega)) (by first | omega | (simp only [sA_same, sA_s, ud_s, Int.reduceEq, if_true, if_false, ite_true, ite_false, ↓reduceIte, and_true, true_and, eq_self, Int.add_zero, Int.reduceAdd]; omega) | (simp (disch := omega) only [sA_same, sA_ne, ud_eq, ud_ne, Int.add_zero, Int.reduceAdd]; omega)) (by first | omega | (simp only [sA_same, sA_s, ud_s, Int.reduceEq, if_true, if_false, ite_true, ite_false, ↓reduceIte, and_true, true_and, eq_self, Int.add_zero, Int.reduceAdd]; omega) | (simp (disch := omega) only [sA_same, sA_ne, ud_eq, ud_ne, Int.add_zero, Int.reduceAdd]; omega)) ?_
    (try simp (disch := omega) only [sA_same, sA_ne, sA_sA, sA_sr, sB_s, ud_eq, ud_ne, ud_ud, ud_sr, uB_s, Int.add_zero, Int.reduceAdd])
    refine v_aload_n (n := 146) xB_6 dX0_prints_145 rfl rfl ?_
    refine v_gf_i (n := 149) (kz := 4) xB_6 dX0_prints_146 xO_6 fl_0_31 fg_0_4 rfl (sh_66 _ _ _) rfl rfl ?_
    refine v_isubw (n := 150) xB_6 dX0_prints_149 rfl ?_
    refine v_goto (t := 154) xB_6 dX0_prints_150 (by decide) rfl ?_
    refine v_ireturn0 xB_6 dX0_prints_154 xK_6 ?_
    exact o1
set_option maxHeartbeats 1000000 in
theorem kp_1 {d : Nat} {k x dp : Int} {m : PM} {dy : List (Nat × Nat)} {L : Nat} {Q : Option PV → PS → Prop} (hd : 5 ≤ d) (hr : 0 ≤ m 66 1 ∧ m 66 1 + 4 ≤ 20) (hdp : 0 ≤ dp ∧ dp ≤ 15) (hk : k = 1) (h3 : 0 ≤ m 66 3 ∧ m 66 3 ≤ 6) (o1 : Q (some (.inl (fpV (m 66 3) (m 66 2) (m 66 4) x))) (setA (setA m 66 (ud (m 66) 1 (rsL (m 66 1) (20 :: 11 :: fL (m 66 3))))) 67 (ap (m 67) (m 66 1) (20 :: 11 :: fL (m 66 3))), (none, (dy, L)))) : C d 6 [.inr (.inr 66), .inl k, .inl x, .inl dp] (m, (none, (dy, L))) Q := by
  refine C_go (k := 4) hd xL_6 (fun d hd => ?_)
  show V d 6 (0, ([some (.inr (.inr 66)), some (.inl k), some (.inl x), some (.inl dp)], ([], (m, (none, (dy, L)))))) Q
  rcases (by omega : k = 1) with hk
  · subst hk
    refine v_iload_n (n := 1) xB_6 dX0_prints_0 rfl rfl ?_
    refine v_lsw xB_6 dX0_prints_1 rfl ?_
    refine lsp_c (fun g1 => ?_) (fun g1 => ?_)
    · refine jm_go (t := 36) (by decide) rfl ?_
      refine v_aload_n (n := 37) xB_6 dX0_prints_36 rfl rfl ?_
      refine v_bipush (n := 39) xB_6 dX0_prints_37 ⟨by decide, by decide⟩ rfl ?_
      refine v_iload_n (n := 40) xB_6 dX0_prints_39 rfl rfl ?_
      refine v_call_v (n := 43) xB_6 dX0_prints_40 xO_6 iv_0_42 rfl (sh_66 _ _ _) rfl rfl rfl ?_
      refine k_begins (by omega) (by first | omega | (simp only [sA_same, sA_s, ud_s, Int.reduceEq, if_true, if_false, ite_true, ite_false, ↓reduceIte, and_true, true_and, eq_self, Int.add_zero, Int.reduceAdd]; omega) | (simp (disch := omega) only [sA_same, sA_ne, ud_eq, ud_ne, Int.add_zero, Int.reduceAdd]; omega)) (by first | omega | (simp only [sA_same, sA_s, ud_s, Int.reduceEq, if_true, if_false, ite_true, ite_false, ↓reduceIte, and_true, true_and, eq_self, Int.add_zero, Int.reduceAdd]; omega) | (simp (disch := omega) only [sA_same, sA_ne, ud_eq, ud_ne, Int.add_zero, Int.reduceAdd]; omega)) ?_
      (try simp (disch := omega) only [sA_same, sA_ne, sA_sA, sA_sr, sB_s, ud_eq, ud_ne, ud_ud, ud_sr, uB_s, Int.add_zero, Int.reduceAdd])
      refine v_if_eq_n (n := 46) xB_6 dX0_prints_43 (by decide) rfl (by decide) ?_
      refine v_aload_n (n := 47) xB_6 dX0_prints_46 rfl rfl ?_
      refine v_iconst (n := 48) xB_6 dX0_prints_47 ⟨by decide, by decide⟩ rfl ?_
      refine v_iload_n (n := 49) xB_6 dX0_prints_48 rfl rfl ?_
      refine v_iload_n (n := 50) xB_6 dX0_prints_49 rfl rfl ?_
      refine v_iconst (n := 51) xB_6 dX0_prints_50 ⟨by decide, by decide⟩ rfl ?_
      refine v_iadd (n := 52) xB_6 dX0_prints_51 (by first | omega | (simp only [sA_same, sA_s, ud_s, Int.reduceEq, if_true, if_false, ite_true, ite_false, ↓reduceIte, and_true, true_and, eq_self, Int.add_zero, Int.reduceAdd]; omega) | (simp (disch := omega) only [sA_same, sA_ne, ud_eq, ud_ne, Int.add_zero, Int.reduceAdd]; omega)) rfl ?_
      refine v_call_v (n := 55) xB_6 dX0_prints_52 xO_6 iv_0_36 rfl (sh_66 _ _ _) rfl rfl rfl ?_
      refine kp_D (by omega) (by first | omega | (simp only [sA_same, sA_s, ud_s, Int.reduceEq, if_true, if_false, ite_true, ite_false, ↓reduceIte, and_true, true_and, eq_self, Int.add_zero, Int.reduceAdd]; omega) | (simp (disch := omega) only [sA_same, sA_ne, ud_eq, ud_ne, Int.add_zero, Int.reduceAdd]; omega)) (by first | omega | (simp only [sA_same, sA_s, ud_s, Int.reduceEq, if_true, if_false, ite_true, ite_false, ↓reduceIte, and_true, true_and, eq_self, Int.add_zero, Int.reduceAdd]; omega) | (simp (disch := omega) only [sA_same, sA_ne, ud_eq, ud_ne, Int.add_zero, Int.reduceAdd]; omega)) (by first | omega | (simp only [sA_same, sA_s, ud_s, Int.reduceEq, if_true, if_false, ite_true, ite_false, ↓reduceIte, and_true, true_and, eq_self, Int.add_zero, Int.reduceAdd]; omega) | (simp (disch := omega) only [sA_same, sA_ne, ud_eq, ud_ne, Int.add_zero, Int.reduceAdd]; omega)) (by first | omega | (simp only [sA_same, sA_s, ud_s, Int.reduceEq, if_true, if_false, ite_true, ite_false, ↓reduceIte, and_true, true_and, eq_self, Int.add_zero, Int.reduceAdd]; omega) | (simp (disch := omega) only [sA_same, sA_ne, ud_eq, ud_ne, Int.add_zero, Int.reduceAdd]; omega)) ?_
      (try simp (disch := omega) only [sA_same, sA_ne, sA_sA, sA_sr, sB_s, ud_eq, ud_ne, ud_ud, ud_sr, uB_s, Int.add_zero, Int.reduceAdd])
      refine v_bipush (n := 57) xB_6 dX0_prints_55 ⟨by decide, by decide⟩ rfl ?_
      refine v_ixor (n := 58) xB_6 dX0_prints_57 rfl ?_
      refine v_goto (t := 62) xB_6 dX0_prints_58 (by decide) rfl ?_
      refine v_ireturn0 xB_6 dX0_prints_62 xK_6 ?_
      exact o1
    refine lsp_c (fun g2 => ?_) (fun g2 => ?_)
    · refine jm_go (t := 63) (by decide) rfl ?_
      exfalso; omega
    refine lsp_c (fun g3 => ?_) (fun g3 => ?_)
    · refine jm_go (t := 89) (by decide) rfl ?_
      exfalso; omega
    refine lsp_n ?_
    refine jm_go (t := 123) (by decide) rfl ?_
    exfalso; omega
set_option maxHeartbeats 1000000 in
theorem k_prints {d : Nat} {k x dp : Int} {m : PM} {dy : List (Nat × Nat)} {L : Nat} {Q : Option PV → PS → Prop} (hd : 6 ≤ d) (hr : 0 ≤ m 66 1 ∧ m 66 1 + 5 ≤ 20) (hdp : 0 ≤ dp ∧ dp ≤ 14) (hkk : k = m 66 3) (h3 : 0 ≤ m 66 3 ∧ m 66 3 ≤ 6) (o1 : Q (some (.inl (pV (m 66 3) (m 66 2) (m 66 4) x))) (setA (setA m 66 (ud (m 66) 1 (rsL (m 66 1) (pL (m 66 3))))) 67 (ap (m 67) (m 66 1) (pL (m 66 3))), (none, (dy, L)))) : C d 6 [.inr (.inr 66), .inl k, .inl x, .inl dp] (m, (none, (dy, L))) Q := by
  refine C_go (k := 5) hd xL_6 (fun d hd => ?_)
  show V d 6 (0, ([some (.inr (.inr 66)), some (.inl k), some (.inl x), some (.inl dp)], ([], (m, (none, (dy, L)))))) Q
  rcases (by omega : k = 0 ∨ k = 1 ∨ k = 2 ∨ k = 3 ∨ k = 4 ∨ k = 5 ∨ k = 6) with hk | hk | hk | hk | hk | hk | hk
  · have hm : m 66 3 = 0 := by omega
    rw [hm] at o1
    subst hk
    refine v_iload_n (n := 1) xB_6 dX0_prints_0 rfl rfl ?_
    refine v_lsw xB_6 dX0_prints_1 rfl ?_
    refine lsp_c (fun g1 => ?_) (fun g1 => ?_)
    · refine jm_go (t := 36) (by decide) rfl ?_
      exfalso; omega
    refine lsp_c (fun g2 => ?_) (fun g2 => ?_)
    · refine jm_go (t := 63) (by decide) rfl ?_
      exfalso; omega
    refine lsp_c (fun g3 => ?_) (fun g3 => ?_)
    · refine jm_go (t := 89) (by decide) rfl ?_
      exfalso; omega
    refine lsp_n ?_
    refine jm_go (t := 123) (by decide) rfl ?_
    refine v_aload_n (n := 124) xB_6 dX0_prints_123 rfl rfl ?_
    refine v_bipush (n := 126) xB_6 dX0_prints_124 ⟨by decide, by decide⟩ rfl ?_
    refine v_iload_n (n := 127) xB_6 dX0_prints_126 rfl rfl ?_
    refine v_call_v (n := 130) xB_6 dX0_prints_127 xO_6 iv_0_42 rfl (sh_66 _ _ _) rfl rfl rfl ?_
    refine k_begins (by omega) (by first | omega | (simp only [sA_same, sA_s, ud_s, Int.reduceEq, if_true, if_false, ite_true, ite_false, ↓reduceIte, and_true, true_and, eq_self, Int.add_zero, Int.reduceAdd]; omega) | (simp (disch := omega) only [sA_same, sA_ne, ud_eq, ud_ne, Int.add_zero, Int.reduceAdd]; omega)) (by first | omega | (simp only [sA_same, sA_s, ud_s, Int.reduceEq, if_true, if_false, ite_true, ite_false, ↓reduceIte, and_true, true_and, eq_self, Int.add_zero, Int.reduceAdd]; omega) | (simp (disch := omega) only [sA_same, sA_ne, ud_eq, ud_ne, Int.add_zero, Int.reduceAdd]; omega)) ?_
    (try simp (disch := omega) only [sA_same, sA_ne, sA_sA, sA_sr, sB_s, ud_eq, ud_ne, ud_ud, ud_sr, uB_s, Int.add_zero, Int.reduceAdd])
    refine v_if_eq_n (n := 133) xB_6 dX0_prints_130 (by decide) rfl (by decide) ?_
    refine v_aload_n (n := 134) xB_6 dX0_prints_133 rfl rfl ?_
    refine v_aload_n (n := 135) xB_6 dX0_prints_134 rfl rfl ?_
    refine v_gf_i (n := 138) (kz := 3) xB_6 dX0_prints_135 xO_6 fl_0_27 fg_0_3 rfl (sh_66 _ _ _) rfl rfl ?_
    refine v_iload_n (n := 139) xB_6 dX0_prints_138 rfl rfl ?_
    refine v_iload_n (n := 140) xB_6 dX0_prints_139 rfl rfl ?_
    refine v_iconst (n := 141) xB_6 dX0_prints_140 ⟨by decide, by decide⟩ rfl ?_
    refine v_iadd (n := 142) xB_6 dX0_prints_141 (by first | omega | (simp only [sA_same, sA_s, ud_s, Int.reduceEq, if_true, if_false, ite_true, ite_false, ↓reduceIte, and_true, true_and, eq_self, Int.add_zero, Int.reduceAdd]; omega) | (simp (disch := omega) only [sA_same, sA_ne, ud_eq, ud_ne, Int.add_zero, Int.reduceAdd]; omega)) rfl ?_
    refine v_call_v (n := 145) xB_6 dX0_prints_142 xO_6 iv_0_32 rfl (sh_66 _ _ _) rfl rfl rfl ?_
    refine k_feeds (by omega) (by first | omega | (simp only [sA_same, sA_s, ud_s, Int.reduceEq, if_true, if_false, ite_true, ite_false, ↓reduceIte, and_true, true_and, eq_self, Int.add_zero, Int.reduceAdd]; omega) | (simp (disch := omega) only [sA_same, sA_ne, ud_eq, ud_ne, Int.add_zero, Int.reduceAdd]; omega)) (by first | omega | (simp only [sA_same, sA_s, ud_s, Int.reduceEq, if_true, if_false, ite_true, ite_false, ↓reduceIte, and_true, true_and, eq_self, Int.add_zero, Int.reduceAdd]; omega) | (simp (disch := omega) only [sA_same, sA_ne, ud_eq, ud_ne, Int.add_zero, Int.reduceAdd]; omega)) (by first | omega | (simp only [sA_same, sA_s, ud_s, Int.reduceEq, if_true, if_false, ite_true, ite_false, ↓reduceIte, and_true, true_and, eq_self, Int.add_zero, Int.reduceAdd]; omega) | (simp (disch := omega) only [sA_same, sA_ne, ud_eq, ud_ne, Int.add_zero, Int.reduceAdd]; omega)) ?_
    (try simp (disch := omega) only [sA_same, sA_ne, sA_sA, sA_sr, sB_s, ud_eq, ud_ne, ud_ud, ud_sr, uB_s, Int.add_zero, Int.reduceAdd])
    refine v_aload_n (n := 146) xB_6 dX0_prints_145 rfl rfl ?_
    refine v_gf_i (n := 149) (kz := 4) xB_6 dX0_prints_146 xO_6 fl_0_31 fg_0_4 rfl (sh_66 _ _ _) rfl rfl ?_
    refine v_isubw (n := 150) xB_6 dX0_prints_149 rfl ?_
    refine v_goto (t := 154) xB_6 dX0_prints_150 (by decide) rfl ?_
    refine v_ireturn0 xB_6 dX0_prints_154 xK_6 ?_
    (try rw [hm])
    first | exact o1 | (rw [show pL 6 = (70 :: 11 :: fL 6) ++ [10] from rfl, rsL_app, ap_app] at o1; exact o1)
  · have hm : m 66 3 = 1 := by omega
    rw [hm] at o1
    subst hk
    refine v_iload_n (n := 1) xB_6 dX0_prints_0 rfl rfl ?_
    refine v_lsw xB_6 dX0_prints_1 rfl ?_
    refine lsp_c (fun g1 => ?_) (fun g1 => ?_)
    · refine jm_go (t := 36) (by decide) rfl ?_
      refine v_aload_n (n := 37) xB_6 dX0_prints_36 rfl rfl ?_
      refine v_bipush (n := 39) xB_6 dX0_prints_37 ⟨by decide, by decide⟩ rfl ?_
      refine v_iload_n (n := 40) xB_6 dX0_prints_39 rfl rfl ?_
      refine v_call_v (n := 43) xB_6 dX0_prints_40 xO_6 iv_0_42 rfl (sh_66 _ _ _) rfl rfl rfl ?_
      refine k_begins (by omega) (by first | omega | (simp only [sA_same, sA_s, ud_s, Int.reduceEq, if_true, if_false, ite_true, ite_false, ↓reduceIte, and_true, true_and, eq_self, Int.add_zero, Int.reduceAdd]; omega) | (simp (disch := omega) only [sA_same, sA_ne, ud_eq, ud_ne, Int.add_zero, Int.reduceAdd]; omega)) (by first | omega | (simp only [sA_same, sA_s, ud_s, Int.reduceEq, if_true, if_false, ite_true, ite_false, ↓reduceIte, and_true, true_and, eq_self, Int.add_zero, Int.reduceAdd]; omega) | (simp (disch := omega) only [sA_same, sA_ne, ud_eq, ud_ne, Int.add_zero, Int.reduceAdd]; omega)) ?_
      (try simp (disch := omega) only [sA_same, sA_ne, sA_sA, sA_sr, sB_s, ud_eq, ud_ne, ud_ud, ud_sr, uB_s, Int.add_zero, Int.reduceAdd])
      refine v_if_eq_n (n := 46) xB_6 dX0_prints_43 (by decide) rfl (by decide) ?_
      refine v_aload_n (n := 47) xB_6 dX0_prints_46 rfl rfl ?_
      refine v_iconst (n := 48) xB_6 dX0_prints_47 ⟨by decide, by decide⟩ rfl ?_
      refine v_iload_n (n := 49) xB_6 dX0_prints_48 rfl rfl ?_
      refine v_iload_n (n := 50) xB_6 dX0_prints_49 rfl rfl ?_
      refine v_iconst (n := 51) xB_6 dX0_prints_50 ⟨by decide, by decide⟩ rfl ?_
      refine v_iadd (n := 52) xB_6 dX0_prints_51 (by first | omega | (simp only [sA_same, sA_s, ud_s, Int.reduceEq, if_true, if_false, ite_true, ite_false, ↓reduceIte, and_true, true_and, eq_self, Int.add_zero, Int.reduceAdd]; omega) | (simp (disch := omega) only [sA_same, sA_ne, ud_eq, ud_ne, Int.add_zero, Int.reduceAdd]; omega)) rfl ?_
      refine v_call_v (n := 55) xB_6 dX0_prints_52 xO_6 iv_0_36 rfl (sh_66 _ _ _) rfl rfl rfl ?_
      refine kp_D (by omega) (by first | omega | (simp only [sA_same, sA_s, ud_s, Int.reduceEq, if_true, if_false, ite_true, ite_false, ↓reduceIte, and_true, true_and, eq_self, Int.add_zero, Int.reduceAdd]; omega) | (simp (disch := omega) only [sA_same, sA_ne, ud_eq, ud_ne, Int.add_zero, Int.reduceAdd]; omega)) (by first | omega | (simp only [sA_same, sA_s, ud_s, Int.reduceEq, if_true, if_false, ite_true, ite_false, ↓reduceIte, and_true, true_and, eq_self, Int.add_zero, Int.reduceAdd]; omega) | (simp (disch := omega) only [sA_same, sA_ne, ud_eq, ud_ne, Int.add_zero, Int.reduceAdd]; omega)) (by first | omega | (simp only [sA_same, sA_s, ud_s, Int.reduceEq, if_true, if_false, ite_true, ite_false, ↓reduceIte, and_true, true_and, eq_self, Int.add_zero, Int.reduceAdd]; omega) | (simp (disch := omega) only [sA_same, sA_ne, ud_eq, ud_ne, Int.add_zero, Int.reduceAdd]; omega)) (by first | omega | (simp only [sA_same, sA_s, ud_s, Int.reduceEq, if_true, if_false, ite_true, ite_false, ↓reduceIte, and_true, true_and, eq_self, Int.add_zero, Int.reduceAdd]; omega) | (simp (disch := omega) only [sA_same, sA_ne, ud_eq, ud_ne, Int.add_zero, Int.reduceAdd]; omega)) ?_
      (try simp (disch := omega) only [sA_same, sA_ne, sA_sA, sA_sr, sB_s, ud_eq, ud_ne, ud_ud, ud_sr, uB_s, Int.add_zero, Int.reduceAdd])
      refine v_bipush (n := 57) xB_6 dX0_prints_55 ⟨by decide, by decide⟩ rfl ?_
      refine v_ixor (n := 58) xB_6 dX0_prints_57 rfl ?_
      refine v_goto (t := 62) xB_6 dX0_prints_58 (by decide) rfl ?_
      refine v_ireturn0 xB_6 dX0_prints_62 xK_6 ?_
      (try rw [hm])
      first | exact o1 | (rw [show pL 6 = (70 :: 11 :: fL 6) ++ [10] from rfl, rsL_app, ap_app] at o1; exact o1)
    refine lsp_c (fun g2 => ?_) (fun g2 => ?_)
    · refine jm_go (t := 63) (by decide) rfl ?_
      exfalso; omega
    refine lsp_c (fun g3 => ?_) (fun g3 => ?_)
    · refine jm_go (t := 89) (by decide) rfl ?_
      exfalso; omega
    refine lsp_n ?_
    refine jm_go (t := 123) (by decide) rfl ?_
    exfalso; omega
  · have hm : m 66 3 = 2 := by omega
    rw [hm] at o1
    subst hk
    refine v_iload_n (n := 1) xB_6 dX0_prints_0 rfl rfl ?_
    refine v_lsw xB_6 dX0_prints_1 rfl ?_
    refine lsp_c (fun g1 => ?_) (fun g1 => ?_)
    · refine jm_go (t := 36) (by decide) rfl ?_
      exfalso; omega
    refine lsp_c (fun g2 => ?_) (fun g2 => ?_)
    · refine jm_go (t := 63) (by decide) rfl ?_
      exfalso; omega
    refine lsp_c (fun g3 => ?_) (fun g3 => ?_)
    · refine jm_go (t := 89) (by decide) rfl ?_
      exfalso; omega
    refine lsp_n ?_
    refine jm_go (t := 123) (by decide) rfl ?_
    refine v_aload_n (n := 124) xB_6 dX0_prints_123 rfl rfl ?_
    refine v_bipush (n := 126) xB_6 dX0_prints_124 ⟨by decide, by decide⟩ rfl ?_
    refine v_iload_n (n := 127) xB_6 dX0_prints_126 rfl rfl ?_
    refine v_call_v (n := 130) xB_6 dX0_prints_127 xO_6 iv_0_42 rfl (sh_66 _ _ _) rfl rfl rfl ?_
    refine k_begins (by omega) (by first | omega | (simp only [sA_same, sA_s, ud_s, Int.reduceEq, if_true, if_false, ite_true, ite_false, ↓reduceIte, and_true, true_and, eq_self, Int.add_zero, Int.reduceAdd]; omega) | (simp (disch := omega) only [sA_same, sA_ne, ud_eq, ud_ne, Int.add_zero, Int.reduceAdd]; omega)) (by first | omega | (simp only [sA_same, sA_s, ud_s, Int.reduceEq, if_true, if_false, ite_true, ite_false, ↓reduceIte, and_true, true_and, eq_self, Int.add_zero, Int.reduceAdd]; omega) | (simp (disch := omega) only [sA_same, sA_ne, ud_eq, ud_ne, Int.add_zero, Int.reduceAdd]; omega)) ?_
    (try simp (disch := omega) only [sA_same, sA_ne, sA_sA, sA_sr, sB_s, ud_eq, ud_ne, ud_ud, ud_sr, uB_s, Int.add_zero, Int.reduceAdd])
    refine v_if_eq_n (n := 133) xB_6 dX0_prints_130 (by decide) rfl (by decide) ?_
    refine v_aload_n (n := 134) xB_6 dX0_prints_133 rfl rfl ?_
    refine v_aload_n (n := 135) xB_6 dX0_prints_134 rfl rfl ?_
    refine v_gf_i (n := 138) (kz := 3) xB_6 dX0_prints_135 xO_6 fl_0_27 fg_0_3 rfl (sh_66 _ _ _) rfl rfl ?_
    refine v_iload_n (n := 139) xB_6 dX0_prints_138 rfl rfl ?_
    refine v_iload_n (n := 140) xB_6 dX0_prints_139 rfl rfl ?_
    refine v_iconst (n := 141) xB_6 dX0_prints_140 ⟨by decide, by decide⟩ rfl ?_
    refine v_iadd (n := 142) xB_6 dX0_prints_141 (by first | omega | (simp only [sA_same, sA_s, ud_s, Int.reduceEq, if_true, if_false, ite_true, ite_false, ↓reduceIte, and_true, true_and, eq_self, Int.add_zero, Int.reduceAdd]; omega) | (simp (disch := omega) only [sA_same, sA_ne, ud_eq, ud_ne, Int.add_zero, Int.reduceAdd]; omega)) rfl ?_
    refine v_call_v (n := 145) xB_6 dX0_prints_142 xO_6 iv_0_32 rfl (sh_66 _ _ _) rfl rfl rfl ?_
    refine k_feeds (by omega) (by first | omega | (simp only [sA_same, sA_s, ud_s, Int.reduceEq, if_true, if_false, ite_true, ite_false, ↓reduceIte, and_true, true_and, eq_self, Int.add_zero, Int.reduceAdd]; omega) | (simp (disch := omega) only [sA_same, sA_ne, ud_eq, ud_ne, Int.add_zero, Int.reduceAdd]; omega)) (by first | omega | (simp only [sA_same, sA_s, ud_s, Int.reduceEq, if_true, if_false, ite_true, ite_false, ↓reduceIte, and_true, true_and, eq_self, Int.add_zero, Int.reduceAdd]; omega) | (simp (disch := omega) only [sA_same, sA_ne, ud_eq, ud_ne, Int.add_zero, Int.reduceAdd]; omega)) (by first | omega | (simp only [sA_same, sA_s, ud_s, Int.reduceEq, if_true, if_false, ite_true, ite_false, ↓reduceIte, and_true, true_and, eq_self, Int.add_zero, Int.reduceAdd]; omega) | (simp (disch := omega) only [sA_same, sA_ne, ud_eq, ud_ne, Int.add_zero, Int.reduceAdd]; omega)) ?_
    (try simp (disch := omega) only [sA_same, sA_ne, sA_sA, sA_sr, sB_s, ud_eq, ud_ne, ud_ud, ud_sr, uB_s, Int.add_zero, Int.reduceAdd])
    refine v_aload_n (n := 146) xB_6 dX0_prints_145 rfl rfl ?_
    refine v_gf_i (n := 149) (kz := 4) xB_6 dX0_prints_146 xO_6 fl_0_31 fg_0_4 rfl (sh_66 _ _ _) rfl rfl ?_
    refine v_isubw (n := 150) xB_6 dX0_prints_149 rfl ?_
    refine v_goto (t := 154) xB_6 dX0_prints_150 (by decide) rfl ?_
    refine v_ireturn0 xB_6 dX0_prints_154 xK_6 ?_
    (try rw [hm])
    first | exact o1 | (rw [show pL 6 = (70 :: 11 :: fL 6) ++ [10] from rfl, rsL_app, ap_app] at o1; exact o1)
  · have hm : m 66 3 = 3 := by omega
    rw [hm] at o1
    subst hk
    refine v_iload_n (n := 1) xB_6 dX0_prints_0 rfl rfl ?_
    refine v_lsw xB_6 dX0_prints_1 rfl ?_
    refine lsp_c (fun g1 => ?_) (fun g1 => ?_)
    · refine jm_go (t := 36) (by decide) rfl ?_
      exfalso; omega
    refine lsp_c (fun g2 => ?_) (fun g2 => ?_)
    · refine jm_go (t := 63) (by decide) rfl ?_
      exfalso; omega
    refine lsp_c (fun g3 => ?_) (fun g3 => ?_)
    · refine jm_go (t := 89) (by decide) rfl ?_
      exfalso; omega
    refine lsp_n ?_
    refine jm_go (t := 123) (by decide) rfl ?_
    refine v_aload_n (n := 124) xB_6 dX0_prints_123 rfl rfl ?_
    refine v_bipush (n := 126) xB_6 dX0_prints_124 ⟨by decide, by decide⟩ rfl ?_
    refine v_iload_n (n := 127) xB_6 dX0_prints_126 rfl rfl ?_
    refine v_call_v (n := 130) xB_6 dX0_prints_127 xO_6 iv_0_42 rfl (sh_66 _ _ _) rfl rfl rfl ?_
    refine k_begins (by omega) (by first | omega | (simp only [sA_same, sA_s, ud_s, Int.reduceEq, if_true, if_false, ite_true, ite_false, ↓reduceIte, and_true, true_and, eq_self, Int.add_zero, Int.reduceAdd]; omega) | (simp (disch := omega) only [sA_same, sA_ne, ud_eq, ud_ne, Int.add_zero, Int.reduceAdd]; omega)) (by first | omega | (simp only [sA_same, sA_s, ud_s, Int.reduceEq, if_true, if_false, ite_true, ite_false, ↓reduceIte, and_true, true_and, eq_self, Int.add_zero, Int.reduceAdd]; omega) | (simp (disch := omega) only [sA_same, sA_ne, ud_eq, ud_ne, Int.add_zero, Int.reduceAdd]; omega)) ?_
    (try simp (disch := omega) only [sA_same, sA_ne, sA_sA, sA_sr, sB_s, ud_eq, ud_ne, ud_ud, ud_sr, uB_s, Int.add_zero, Int.reduceAdd])
    refine v_if_eq_n (n := 133) xB_6 dX0_prints_130 (by decide) rfl (by decide) ?_
    refine v_aload_n (n := 134) xB_6 dX0_prints_133 rfl rfl ?_
    refine v_aload_n (n := 135) xB_6 dX0_prints_134 rfl rfl ?_
    refine v_gf_i (n := 138) (kz := 3) xB_6 dX0_prints_135 xO_6 fl_0_27 fg_0_3 rfl (sh_66 _ _ _) rfl rfl ?_
    refine v_iload_n (n := 139) xB_6 dX0_prints_138 rfl rfl ?_
    refine v_iload_n (n := 140) xB_6 dX0_prints_139 rfl rfl ?_
    refine v_iconst (n := 141) xB_6 dX0_prints_140 ⟨by decide, by decide⟩ rfl ?_
    refine v_iadd (n := 142) xB_6 dX0_prints_141 (by first | omega | (simp only [sA_same, sA_s, ud_s, Int.reduceEq, if_true, if_false, ite_true, ite_false, ↓reduceIte, and_true, true_and, eq_self, Int.add_zero, Int.reduceAdd]; omega) | (simp (disch := omega) only [sA_same, sA_ne, ud_eq, ud_ne, Int.add_zero, Int.reduceAdd]; omega)) rfl ?_
    refine v_call_v (n := 145) xB_6 dX0_prints_142 xO_6 iv_0_32 rfl (sh_66 _ _ _) rfl rfl rfl ?_
    refine k_feeds (by omega) (by first | omega | (simp only [sA_same, sA_s, ud_s, Int.reduceEq, if_true, if_false, ite_true, ite_false, ↓reduceIte, and_true, true_and, eq_self, Int.add_zero, Int.reduceAdd]; omega) | (simp (disch := omega) only [sA_same, sA_ne, ud_eq, ud_ne, Int.add_zero, Int.reduceAdd]; omega)) (by first | omega | (simp only [sA_same, sA_s, ud_s, Int.reduceEq, if_true, if_false, ite_true, ite_false, ↓reduceIte, and_true, true_and, eq_self, Int.add_zero, Int.reduceAdd]; omega) | (simp (disch := omega) only [sA_same, sA_ne, ud_eq, ud_ne, Int.add_zero, Int.reduceAdd]; omega)) (by first | omega | (simp only [sA_same, sA_s, ud_s, Int.reduceEq, if_true, if_false, ite_true, ite_false, ↓reduceIte, and_true, true_and, eq_self, Int.add_zero, Int.reduceAdd]; omega) | (simp (disch := omega) only [sA_same, sA_ne, ud_eq, ud_ne, Int.add_zero, Int.reduceAdd]; omega)) ?_
    (try simp (disch := omega) only [sA_same, sA_ne, sA_sA, sA_sr, sB_s, ud_eq, ud_ne, ud_ud, ud_sr, uB_s, Int.add_zero, Int.reduceAdd])
    refine v_aload_n (n := 146) xB_6 dX0_prints_145 rfl rfl ?_
    refine v_gf_i (n := 149) (kz := 4) xB_6 dX0_prints_146 xO_6 fl_0_31 fg_0_4 rfl (sh_66 _ _ _) rfl rfl ?_
    refine v_isubw (n := 150) xB_6 dX0_prints_149 rfl ?_
    refine v_goto (t := 154) xB_6 dX0_prints_150 (by decide) rfl ?_
    refine v_ireturn0 xB_6 dX0_prints_154 xK_6 ?_
    (try rw [hm])
    first | exact o1 | (rw [show pL 6 = (70 :: 11 :: fL 6) ++ [10] from rfl, rsL_app, ap_app] at o1; exact o1)
  · have hm : m 66 3 = 4 := by omega
    rw [hm] at o1
    subst hk
    refine v_iload_n (n := 1) xB_6 dX0_prints_0 rfl rfl ?_
    refine v_lsw xB_6 dX0_prints_1 rfl ?_
    refine lsp_c (fun g1 => ?_) (fun g1 => ?_)
    · refine jm_go (t := 36) (by decide) rfl ?_
      exfalso; omega
    refine lsp_c (fun g2 => ?_) (fun g2 => ?_)
    · refine jm_go (t := 63) (by decide) rfl ?_
      refine v_aload_n (n := 64) xB_6 dX0_prints_63 rfl rfl ?_
      refine v_bipush (n := 66) xB_6 dX0_prints_64 ⟨by decide, by decide⟩ rfl ?_
      refine v_iload_n (n := 67) xB_6 dX0_prints_66 rfl rfl ?_
      refine v_call_v (n := 70) xB_6 dX0_prints_67 xO_6 iv_0_42 rfl (sh_66 _ _ _) rfl rfl rfl ?_
      refine k_begins (by omega) (by first | omega | (simp only [sA_same, sA_s, ud_s, Int.reduceEq, if_true, if_false, ite_true, ite_false, ↓reduceIte, and_true, true_and, eq_self, Int.add_zero, Int.reduceAdd]; omega) | (simp (disch := omega) only [sA_same, sA_ne, ud_eq, ud_ne, Int.add_zero, Int.reduceAdd]; omega)) (by first | omega | (simp only [sA_same, sA_s, ud_s, Int.reduceEq, if_true, if_false, ite_true, ite_false, ↓reduceIte, and_true, true_and, eq_self, Int.add_zero, Int.reduceAdd]; omega) | (simp (disch := omega) only [sA_same, sA_ne, ud_eq, ud_ne, Int.add_zero, Int.reduceAdd]; omega)) ?_
      (try simp (disch := omega) only [sA_same, sA_ne, sA_sA, sA_sr, sB_s, ud_eq, ud_ne, ud_ud, ud_sr, uB_s, Int.add_zero, Int.reduceAdd])
      refine v_if_eq_n (n := 73) xB_6 dX0_prints_70 (by decide) rfl (by decide) ?_
      refine v_aload_n (n := 74) xB_6 dX0_prints_73 rfl rfl ?_
      refine v_iconst (n := 75) xB_6 dX0_prints_74 ⟨by decide, by decide⟩ rfl ?_
      refine v_iload_n (n := 76) xB_6 dX0_prints_75 rfl rfl ?_
      refine v_iconst (n := 77) xB_6 dX0_prints_76 ⟨by decide, by decide⟩ rfl ?_
      refine v_iaddw (n := 78) xB_6 dX0_prints_77 rfl ?_
      refine v_iload_n (n := 79) xB_6 dX0_prints_78 rfl rfl ?_
      refine v_iconst (n := 80) xB_6 dX0_prints_79 ⟨by decide, by decide⟩ rfl ?_
      refine v_iadd (n := 81) xB_6 dX0_prints_80 (by first | omega | (simp only [sA_same, sA_s, ud_s, Int.reduceEq, if_true, if_false, ite_true, ite_false, ↓reduceIte, and_true, true_and, eq_self, Int.add_zero, Int.reduceAdd]; omega) | (simp (disch := omega) only [sA_same, sA_ne, ud_eq, ud_ne, Int.add_zero, Int.reduceAdd]; omega)) rfl ?_
      refine v_call_v (n := 84) xB_6 dX0_prints_81 xO_6 iv_0_36 rfl (sh_66 _ _ _) rfl rfl rfl ?_
      refine kp_1 (by omega) (by first | omega | (simp only [sA_same, sA_s, ud_s, Int.reduceEq, if_true, if_false, ite_true, ite_false, ↓reduceIte, and_true, true_and, eq_self, Int.add_zero, Int.reduceAdd]; omega) | (simp (disch := omega) only [sA_same, sA_ne, ud_eq, ud_ne, Int.add_zero, Int.reduceAdd]; omega)) (by first | omega | (simp only [sA_same, sA_s, ud_s, Int.reduceEq, if_true, if_false, ite_true, ite_false, ↓reduceIte, and_true, true_and, eq_self, Int.add_zero, Int.reduceAdd]; omega) | (simp (disch := omega) only [sA_same, sA_ne, ud_eq, ud_ne, Int.add_zero, Int.reduceAdd]; omega)) (by first | omega | (simp only [sA_same, sA_s, ud_s, Int.reduceEq, if_true, if_false, ite_true, ite_false, ↓reduceIte, and_true, true_and, eq_self, Int.add_zero, Int.reduceAdd]; omega) | (simp (disch := omega) only [sA_same, sA_ne, ud_eq, ud_ne, Int.add_zero, Int.reduceAdd]; omega)) (by first | omega | (simp only [sA_same, sA_s, ud_s, Int.reduceEq, if_true, if_false, ite_true, ite_false, ↓reduceIte, and_true, true_and, eq_self, Int.add_zero, Int.reduceAdd]; omega) | (simp (disch := omega) only [sA_same, sA_ne, ud_eq, ud_ne, Int.add_zero, Int.reduceAdd]; omega)) ?_
      (try simp (disch := omega) only [sA_same, sA_ne, sA_sA, sA_sr, sB_s, ud_eq, ud_ne, ud_ud, ud_sr, uB_s, Int.add_zero, Int.reduceAdd])
      refine v_goto (t := 88) xB_6 dX0_prints_84 (by decide) rfl ?_
      refine v_ireturn0 xB_6 dX0_prints_88 xK_6 ?_
      (try rw [hm])
      first | exact o1 | (rw [show pL 6 = (70 :: 11 :: fL 6) ++ [10] from rfl, rsL_app, ap_app] at o1; exact o1)
    refine lsp_c (fun g3 => ?_) (fun g3 => ?_)
    · refine jm_go (t := 89) (by decide) rfl ?_
      exfalso; omega
    refine lsp_n ?_
    refine jm_go (t := 123) (by decide) rfl ?_
    exfalso; omega
  · have hm : m 66 3 = 5 := by omega
    rw [hm] at o1
    subst hk
    refine v_iload_n (n := 1) xB_6 dX0_prints_0 rfl rfl ?_
    refine v_lsw xB_6 dX0_prints_1 rfl ?_
    refine lsp_c (fun g1 => ?_) (fun g1 => ?_)
    · refine jm_go (t := 36) (by decide) rfl ?_
      exfalso; omega
    refine lsp_c (fun g2 => ?_) (fun g2 => ?_)
    · refine jm_go (t := 63) (by decide) rfl ?_
      exfalso; omega
    refine lsp_c (fun g3 => ?_) (fun g3 => ?_)
    · refine jm_go (t := 89) (by decide) rfl ?_
      exfalso; omega
    refine lsp_n ?_
    refine jm_go (t := 123) (by decide) rfl ?_
    refine v_aload_n (n := 124) xB_6 dX0_prints_123 rfl rfl ?_
    refine v_bipush (n := 126) xB_6 dX0_prints_124 ⟨by decide, by decide⟩ rfl ?_
    refine v_iload_n (n := 127) xB_6 dX0_prints_126 rfl rfl ?_
    refine v_call_v (n := 130) xB_6 dX0_prints_127 xO_6 iv_0_42 rfl (sh_66 _ _ _) rfl rfl rfl ?_
    refine k_begins (by omega) (by first | omega | (simp only [sA_same, sA_s, ud_s, Int.reduceEq, if_true, if_false, ite_true, ite_false, ↓reduceIte, and_true, true_and, eq_self, Int.add_zero, Int.reduceAdd]; omega) | (simp (disch := omega) only [sA_same, sA_ne, ud_eq, ud_ne, Int.add_zero, Int.reduceAdd]; omega)) (by first | omega | (simp only [sA_same, sA_s, ud_s, Int.reduceEq, if_true, if_false, ite_true, ite_false, ↓reduceIte, and_true, true_and, eq_self, Int.add_zero, Int.reduceAdd]; omega) | (simp (disch := omega) only [sA_same, sA_ne, ud_eq, ud_ne, Int.add_zero, Int.reduceAdd]; omega)) ?_
    (try simp (disch := omega) only [sA_same, sA_ne, sA_sA, sA_sr, sB_s, ud_eq, ud_ne, ud_ud, ud_sr, uB_s, Int.add_zero, Int.reduceAdd])
    refine v_if_eq_n (n := 133) xB_6 dX0_prints_130 (by decide) rfl (by decide) ?_
    refine v_aload_n (n := 134) xB_6 dX0_prints_133 rfl rfl ?_
    refine v_aload_n (n := 135) xB_6 dX0_prints_134 rfl rfl ?_
    refine v_gf_i (n := 138) (kz := 3) xB_6 dX0_prints_135 xO_6 fl_0_27 fg_0_3 rfl (sh_66 _ _ _) rfl rfl ?_
    refine v_iload_n (n := 139) xB_6 dX0_prints_138 rfl rfl ?_
    refine v_iload_n (n := 140) xB_6 dX0_prints_139 rfl rfl ?_
    refine v_iconst (n := 141) xB_6 dX0_prints_140 ⟨by decide, by decide⟩ rfl ?_
    refine v_iadd (n := 142) xB_6 dX0_prints_141 (by first | omega | (simp only [sA_same, sA_s, ud_s, Int.reduceEq, if_true, if_false, ite_true, ite_false, ↓reduceIte, and_true, true_and, eq_self, Int.add_zero, Int.reduceAdd]; omega) | (simp (disch := omega) only [sA_same, sA_ne, ud_eq, ud_ne, Int.add_zero, Int.reduceAdd]; omega)) rfl ?_
    refine v_call_v (n := 145) xB_6 dX0_prints_142 xO_6 iv_0_32 rfl (sh_66 _ _ _) rfl rfl rfl ?_
    refine k_feeds (by omega) (by first | omega | (simp only [sA_same, sA_s, ud_s, Int.reduceEq, if_true, if_false, ite_true, ite_false, ↓reduceIte, and_true, true_and, eq_self, Int.add_zero, Int.reduceAdd]; omega) | (simp (disch := omega) only [sA_same, sA_ne, ud_eq, ud_ne, Int.add_zero, Int.reduceAdd]; omega)) (by first | omega | (simp only [sA_same, sA_s, ud_s, Int.reduceEq, if_true, if_false, ite_true, ite_false, ↓reduceIte, and_true, true_and, eq_self, Int.add_zero, Int.reduceAdd]; omega) | (simp (disch := omega) only [sA_same, sA_ne, ud_eq, ud_ne, Int.add_zero, Int.reduceAdd]; omega)) (by first | omega | (simp only [sA_same, sA_s, ud_s, Int.reduceEq, if_true, if_false, ite_true, ite_false, ↓reduceIte, and_true, true_and, eq_self, Int.add_zero, Int.reduceAdd]; omega) | (simp (disch := omega) only [sA_same, sA_ne, ud_eq, ud_ne, Int.add_zero, Int.reduceAdd]; omega)) ?_
    (try simp (disch := omega) only [sA_same, sA_ne, sA_sA, sA_sr, sB_s, ud_eq, ud_ne, ud_ud, ud_sr, uB_s, Int.add_zero, Int.reduceAdd])
    refine v_aload_n (n := 146) xB_6 dX0_prints_145 rfl rfl ?_
    refine v_gf_i (n := 149) (kz := 4) xB_6 dX0_prints_146 xO_6 fl_0_31 fg_0_4 rfl (sh_66 _ _ _) rfl rfl ?_
    refine v_isubw (n := 150) xB_6 dX0_prints_149 rfl ?_
    refine v_goto (t := 154) xB_6 dX0_prints_150 (by decide) rfl ?_
    refine v_ireturn0 xB_6 dX0_prints_154 xK_6 ?_
    (try rw [hm])
    first | exact o1 | (rw [show pL 6 = (70 :: 11 :: fL 6) ++ [10] from rfl, rsL_app, ap_app] at o1; exact o1)
  · have hm : m 66 3 = 6 := by omega
    rw [hm] at o1
    subst hk
    refine v_iload_n (n := 1) xB_6 dX0_prints_0 rfl rfl ?_
    refine v_lsw xB_6 dX0_prints_1 rfl ?_
    refine lsp_c (fun g1 => ?_) (fun g1 => ?_)
    · refine jm_go (t := 36) (by decide) rfl ?_
      exfalso; omega
    refine lsp_c (fun g2 => ?_) (fun g2 => ?_)
    · refine jm_go (t := 63) (by decide) rfl ?_
      exfalso; omega
    refine lsp_c (fun g3 => ?_) (fun g3 => ?_)
    · refine jm_go (t := 89) (by decide) rfl ?_
      refine v_aload_n (n := 90) xB_6 dX0_prints_89 rfl rfl ?_
      refine v_bipush (n := 92) xB_6 dX0_prints_90 ⟨by decide, by decide⟩ rfl ?_
      refine v_iload_n (n := 93) xB_6 dX0_prints_92 rfl rfl ?_
      refine v_call_v (n := 96) xB_6 dX0_prints_93 xO_6 iv_0_42 rfl (sh_66 _ _ _) rfl rfl rfl ?_
      refine k_begins (by omega) (by first | omega | (simp only [sA_same, sA_s, ud_s, Int.reduceEq, if_true, if_false, ite_true, ite_false, ↓reduceIte, and_true, true_and, eq_self, Int.add_zero, Int.reduceAdd]; omega) | (simp (disch := omega) only [sA_same, sA_ne, ud_eq, ud_ne, Int.add_zero, Int.reduceAdd]; omega)) (by first | omega | (simp only [sA_same, sA_s, ud_s, Int.reduceEq, if_true, if_false, ite_true, ite_false, ↓reduceIte, and_true, true_and, eq_self, Int.add_zero, Int.reduceAdd]; omega) | (simp (disch := omega) only [sA_same, sA_ne, ud_eq, ud_ne, Int.add_zero, Int.reduceAdd]; omega)) ?_
      (try simp (disch := omega) only [sA_same, sA_ne, sA_sA, sA_sr, sB_s, ud_eq, ud_ne, ud_ud, ud_sr, uB_s, Int.add_zero, Int.reduceAdd])
      refine v_if_eq_n (n := 99) xB_6 dX0_prints_96 (by decide) rfl (by decide) ?_
      refine v_aload_n (n := 100) xB_6 dX0_prints_99 rfl rfl ?_
      refine v_iconst (n := 101) xB_6 dX0_prints_100 ⟨by decide, by decide⟩ rfl ?_
      refine v_iload_n (n := 102) xB_6 dX0_prints_101 rfl rfl ?_
      refine v_iload_n (n := 103) xB_6 dX0_prints_102 rfl rfl ?_
      refine v_iconst (n := 104) xB_6 dX0_prints_103 ⟨by decide, by decide⟩ rfl ?_
      refine v_iadd (n := 105) xB_6 dX0_prints_104 (by first | omega | (simp only [sA_same, sA_s, ud_s, Int.reduceEq, if_true, if_false, ite_true, ite_false, ↓reduceIte, and_true, true_and, eq_self, Int.add_zero, Int.reduceAdd]; omega) | (simp (disch := omega) only [sA_same, sA_ne, ud_eq, ud_ne, Int.add_zero, Int.reduceAdd]; omega)) rfl ?_
      refine v_call_v (n := 108) xB_6 dX0_prints_105 xO_6 iv_0_36 rfl (sh_66 _ _ _) rfl rfl rfl ?_
      refine kp_D (by omega) (by first | omega | (simp only [sA_same, sA_s, ud_s, Int.reduceEq, if_true, if_false, ite_true, ite_false, ↓reduceIte, and_true, true_and, eq_self, Int.add_zero, Int.reduceAdd]; omega) | (simp (disch := omega) only [sA_same, sA_ne, ud_eq, ud_ne, Int.add_zero, Int.reduceAdd]; omega)) (by first | omega | (simp only [sA_same, sA_s, ud_s, Int.reduceEq, if_true, if_false, ite_true, ite_false, ↓reduceIte, and_true, true_and, eq_self, Int.add_zero, Int.reduceAdd]; omega) | (simp (disch := omega) only [sA_same, sA_ne, ud_eq, ud_ne, Int.add_zero, Int.reduceAdd]; omega)) (by first | omega | (simp only [sA_same, sA_s, ud_s, Int.reduceEq, if_true, if_false, ite_true, ite_false, ↓reduceIte, and_true, true_and, eq_self, Int.add_zero, Int.reduceAdd]; omega) | (simp (disch := omega) only [sA_same, sA_ne, ud_eq, ud_ne, Int.add_zero, Int.reduceAdd]; omega)) (by first | omega | (simp only [sA_same, sA_s, ud_s, Int.reduceEq, if_true, if_false, ite_true, ite_false, ↓reduceIte, and_true, true_and, eq_self, Int.add_zero, Int.reduceAdd]; omega) | (simp (disch := omega) only [sA_same, sA_ne, ud_eq, ud_ne, Int.add_zero, Int.reduceAdd]; omega)) ?_
      (try simp (disch := omega) only [sA_same, sA_ne, sA_sA, sA_sr, sB_s, ud_eq, ud_ne, ud_ud, ud_sr, uB_s, Int.add_zero, Int.reduceAdd])
      refine v_aload_n (n := 109) xB_6 dX0_prints_108 rfl rfl ?_
      refine v_iconst (n := 110) xB_6 dX0_prints_109 ⟨by decide, by decide⟩ rfl ?_
      refine v_iconst (n := 111) xB_6 dX0_prints_110 ⟨by decide, by decide⟩ rfl ?_
      refine v_iload_n (n := 112) xB_6 dX0_prints_111 rfl rfl ?_
      refine v_iconst (n := 113) xB_6 dX0_prints_112 ⟨by decide, by decide⟩ rfl ?_
      refine v_iadd (n := 114) xB_6 dX0_prints_113 (by first | omega | (simp only [sA_same, sA_s, ud_s, Int.reduceEq, if_true, if_false, ite_true, ite_false, ↓reduceIte, and_true, true_and, eq_self, Int.add_zero, Int.reduceAdd]; omega) | (simp (disch := omega) only [sA_same, sA_ne, ud_eq, ud_ne, Int.add_zero, Int.reduceAdd]; omega)) rfl ?_
      refine v_call_v (n := 117) xB_6 dX0_prints_114 xO_6 iv_0_32 rfl (sh_66 _ _ _) rfl rfl rfl ?_
      refine kf_D (by omega) (by have q := rsL_n (11 :: fL (m 66 3)) (m 66 1 + 1); have q2 := fL_len (m 66 3); have q3 := pL_len (m 66 3); simp only [List.length_cons, List.length_append, List.length_nil] at q; simp (disch := omega) only [sA_ne, sA_same, ud_eq, ud_ne]; omega) (by first | omega | (simp only [sA_same, sA_s, ud_s, Int.reduceEq, if_true, if_false, ite_true, ite_false, ↓reduceIte, and_true, true_and, eq_self, Int.add_zero, Int.reduceAdd]; omega) | (simp (disch := omega) only [sA_same, sA_ne, ud_eq, ud_ne, Int.add_zero, Int.reduceAdd]; omega)) (by first | omega | (simp only [sA_same, sA_s, ud_s, Int.reduceEq, if_true, if_false, ite_true, ite_false, ↓reduceIte, and_true, true_and, eq_self, Int.add_zero, Int.reduceAdd]; omega) | (simp (disch := omega) only [sA_same, sA_ne, ud_eq, ud_ne, Int.add_zero, Int.reduceAdd]; omega)) ?_
      (try simp (disch := omega) only [sA_same, sA_ne, sA_sA, sA_sr, sB_s, ud_eq, ud_ne, ud_ud, ud_sr, uB_s, Int.add_zero, Int.reduceAdd])
      refine v_iaddw (n := 118) xB_6 dX0_prints_117 rfl ?_
      refine v_goto (t := 122) xB_6 dX0_prints_118 (by decide) rfl ?_
      refine v_ireturn0 xB_6 dX0_prints_122 xK_6 ?_
      (try rw [hm])
      first | exact o1 | (rw [show pL 6 = (70 :: 11 :: fL 6) ++ [10] from rfl, rsL_app, ap_app] at o1; exact o1)
    refine lsp_n ?_
    refine jm_go (t := 123) (by decide) rfl ?_
    exfalso; omega
set_option maxHeartbeats 1000000 in
theorem kt_D {d : Nat} {k x dp : Int} {m : PM} {dy : List (Nat × Nat)} {L : Nat} {Q : Option PV → PS → Prop} (hd : 7 ≤ d) (hr : 0 ≤ m 66 1 ∧ m 66 1 + 6 ≤ 20) (hdp : 0 ≤ dp ∧ dp ≤ 13) (hk : k = 0 ∨ k = 2) (h3 : 0 ≤ m 66 3 ∧ m 66 3 ≤ 6) (o1 : Q (some (.inl (ttV (m 66 3) (m 66 2) (m 66 4) x))) (setA (setA m 66 (ud (m 66) 1 (rsL (m 66 1) (12 :: pL (m 66 3))))) 67 (ap (m 67) (m 66 1) (12 :: pL (m 66 3))), (none, (dy, L)))) : C d 7 [.inr (.inr 66), .inl k, .inl x, .inl dp] (m, (none, (dy, L))) Q := by
  refine C_go (k := 6) hd xL_7 (fun d hd => ?_)
  show V d 7 (0, ([some (.inr (.inr 66)), some (.inl k), some (.inl x), some (.inl dp)], ([], (m, (none, (dy, L)))))) Q
  rcases (by omega : k = 0 ∨ k = 2) with hk | hk
  · subst hk
    refine v_iload_n (n := 1) xB_7 dX0_tells_0 rfl rfl ?_
    refine v_tsw xB_7 dX0_tells_1 rfl ?_
    refine ts_c (lo' := 4) rfl (fun g1 => ?_) (fun g1 => ?_)
    · refine jm_go (t := 32) (by decide) rfl ?_
      exfalso; omega
    refine ts_c (lo' := 5) rfl (fun g2 => ?_) (fun g2 => ?_)
    · refine jm_go (t := 98) (by decide) rfl ?_
      exfalso; omega
    refine ts_c (lo' := 6) rfl (fun g3 => ?_) (fun g3 => ?_)
    · refine jm_go (t := 69) (by decide) rfl ?_
      exfalso; omega
    refine ts_c (lo' := 7) rfl (fun g4 => ?_) (fun g4 => ?_)
    · refine jm_go (t := 32) (by decide) rfl ?_
      exfalso; omega
    refine ts_n ?_
    refine jm_go (t := 98) (by decide) rfl ?_
    refine v_aload_n (n := 99) xB_7 dX0_tells_98 rfl rfl ?_
    refine v_bipush (n := 101) xB_7 dX0_tells_99 ⟨by decide, by decide⟩ rfl ?_
    refine v_iload_n (n := 102) xB_7 dX0_tells_101 rfl rfl ?_
    refine v_call_v (n := 105) xB_7 dX0_tells_102 xO_7 iv_0_42 rfl (sh_66 _ _ _) rfl rfl rfl ?_
    refine k_begins (by omega) (by first | omega | (simp only [sA_same, sA_s, ud_s, Int.reduceEq, if_true, if_false, ite_true, ite_false, ↓reduceIte, and_true, true_and, eq_self, Int.add_zero, Int.reduceAdd]; omega) | (simp (disch := omega) only [sA_same, sA_ne, ud_eq, ud_ne, Int.add_zero, Int.reduceAdd]; omega)) (by first | omega | (simp only [sA_same, sA_s, ud_s, Int.reduceEq, if_true, if_false, ite_true, ite_false, ↓reduceIte, and_true, true_and, eq_self, Int.add_zero, Int.reduceAdd]; omega) | (simp (disch := omega) only [sA_same, sA_ne, ud_eq, ud_ne, Int.add_zero, Int.reduceAdd]; omega)) ?_
    (try simp (disch := omega) only [sA_same, sA_ne, sA_sA, sA_sr, sB_s, ud_eq, ud_ne, ud_ud, ud_sr, uB_s, Int.add_zero, Int.reduceAdd])
    refine v_if_eq_n (n := 108) xB_7 dX0_tells_105 (by decide) rfl (by decide) ?_
    refine v_aload_n (n := 109) xB_7 dX0_tells_108 rfl rfl ?_
    refine v_aload_n (n := 110) xB_7 dX0_tells_109 rfl rfl ?_
    refine v_gf_i (n := 113) (kz := 3) xB_7 dX0_tells_110 xO_7 fl_0_27 fg_0_3 rfl (sh_66 _ _ _) rfl rfl ?_
    refine v_iload_n (n := 114) xB_7 dX0_tells_113 rfl rfl ?_
    refine v_iload_n (n := 115) xB_7 dX0_tells_114 rfl rfl ?_
    refine v_iconst (n := 116) xB_7 dX0_tells_115 ⟨by decide, by decide⟩ rfl ?_
    refine v_iadd (n := 117) xB_7 dX0_tells_116 (by first | omega | (simp only [sA_same, sA_s, ud_s, Int.reduceEq, if_true, if_false, ite_true, ite_false, ↓reduceIte, and_true, true_and, eq_self, Int.add_zero, Int.reduceAdd]; omega) | (simp (disch := omega) only [sA_same, sA_ne, ud_eq, ud_ne, Int.add_zero, Int.reduceAdd]; omega)) rfl ?_
    refine v_call_v (n := 120) xB_7 dX0_tells_117 xO_7 iv_0_36 rfl (sh_66 _ _ _) rfl rfl rfl ?_
    refine k_prints (by omega) (by first | omega | (simp only [sA_same, sA_s, ud_s, Int.reduceEq, if_true, if_false, ite_true, ite_false, ↓reduceIte, and_true, true_and, eq_self, Int.add_zero, Int.reduceAdd]; omega) | (simp (disch := omega) only [sA_same, sA_ne, ud_eq, ud_ne, Int.add_zero, Int.reduceAdd]; omega)) (by first | omega | (simp only [sA_same, sA_s, ud_s, Int.reduceEq, if_true, if_false, ite_true, ite_false, ↓reduceIte, and_true, true_and, eq_self, Int.add_zero, Int.reduceAdd]; omega) | (simp (disch := omega) only [sA_same, sA_ne, ud_eq, ud_ne, Int.add_zero, Int.reduceAdd]; omega)) (by first | omega | (simp only [sA_same, sA_s, ud_s, Int.reduceEq, if_true, if_false, ite_true, ite_false, ↓reduceIte, and_true, true_and, eq_self, Int.add_zero, Int.reduceAdd]; omega) | (simp (disch := omega) only [sA_same, sA_ne, ud_eq, ud_ne, Int.add_zero, Int.reduceAdd]; omega)) (by first | omega | (simp only [sA_same, sA_s, ud_s, Int.reduceEq, if_true, if_false, ite_true, ite_false, ↓reduceIte, and_true, true_and, eq_self, Int.add_zero, Int.reduceAdd]; omega) | (simp (disch := omega) only [sA_same, sA_ne, ud_eq, ud_ne, Int.add_zero, Int.reduceAdd]; omega)) ?_
    (try simp (disch := omega) only [sA_same, sA_ne, sA_sA, sA_sr, sB_s, ud_eq, ud_ne, ud_ud, ud_sr, uB_s, Int.add_zero, Int.reduceAdd])
    refine v_iconst (n := 121) xB_7 dX0_tells_120 ⟨by decide, by decide⟩ rfl ?_
    refine v_imulw (n := 122) xB_7 dX0_tells_121 rfl ?_
    refine v_goto (t := 126) xB_7 dX0_tells_122 (by decide) rfl ?_
    refine v_ireturn0 xB_7 dX0_tells_126 xK_7 ?_
    exact o1
  · subst hk
    refine v_iload_n (n := 1) xB_7 dX0_tells_0 rfl rfl ?_
    refine v_tsw xB_7 dX0_tells_1 rfl ?_
    refine ts_c (lo' := 4) rfl (fun g1 => ?_) (fun g1 => ?_)
    · refine jm_go (t := 32) (by decide) rfl ?_
      exfalso; omega
    refine ts_c (lo' := 5) rfl (fun g2 => ?_) (fun g2 => ?_)
    · refine jm_go (t := 98) (by decide) rfl ?_
      exfalso; omega
    refine ts_c (lo' := 6) rfl (fun g3 => ?_) (fun g3 => ?_)
    · refine jm_go (t := 69) (by decide) rfl ?_
      exfalso; omega
    refine ts_c (lo' := 7) rfl (fun g4 => ?_) (fun g4 => ?_)
    · refine jm_go (t := 32) (by decide) rfl ?_
      exfalso; omega
    refine ts_n ?_
    refine jm_go (t := 98) (by decide) rfl ?_
    refine v_aload_n (n := 99) xB_7 dX0_tells_98 rfl rfl ?_
    refine v_bipush (n := 101) xB_7 dX0_tells_99 ⟨by decide, by decide⟩ rfl ?_
    refine v_iload_n (n := 102) xB_7 dX0_tells_101 rfl rfl ?_
    refine v_call_v (n := 105) xB_7 dX0_tells_102 xO_7 iv_0_42 rfl (sh_66 _ _ _) rfl rfl rfl ?_
    refine k_begins (by omega) (by first | omega | (simp only [sA_same, sA_s, ud_s, Int.reduceEq, if_true, if_false, ite_true, ite_false, ↓reduceIte, and_true, true_and, eq_self, Int.add_zero, Int.reduceAdd]; omega) | (simp (disch := omega) only [sA_same, sA_ne, ud_eq, ud_ne, Int.add_zero, Int.reduceAdd]; omega)) (by first | omega | (simp only [sA_same, sA_s, ud_s, Int.reduceEq, if_true, if_false, ite_true, ite_false, ↓reduceIte, and_true, true_and, eq_self, Int.add_zero, Int.reduceAdd]; omega) | (simp (disch := omega) only [sA_same, sA_ne, ud_eq, ud_ne, Int.add_zero, Int.reduceAdd]; omega)) ?_
    (try simp (disch := omega) only [sA_same, sA_ne, sA_sA, sA_sr, sB_s, ud_eq, ud_ne, ud_ud, ud_sr, uB_s, Int.add_zero, Int.reduceAdd])
    refine v_if_eq_n (n := 108) xB_7 dX0_tells_105 (by decide) rfl (by decide) ?_
    refine v_aload_n (n := 109) xB_7 dX0_tells_108 rfl rfl ?_
    refine v_aload_n (n := 110) xB_7 dX0_tells_109 rfl rfl ?_
    refine v_gf_i (n := 113) (kz := 3) xB_7 dX0_tells_110 xO_7 fl_0_27 fg_0_3 rfl (sh_66 _ _ _) rfl rfl ?_
    refine v_iload_n (n := 114) xB_7 dX0_tells_113 rfl rfl ?_
    refine v_iload_n (n := 115) xB_7 dX0_tells_114 rfl rfl ?_
    refine v_iconst (n := 116) xB_7 dX0_tells_115 ⟨by decide, by decide⟩ rfl ?_
    refine v_iadd (n := 117) xB_7 dX0_tells_116 (by first | omega | (simp only [sA_same, sA_s, ud_s, Int.reduceEq, if_true, if_false, ite_true, ite_false, ↓reduceIte, and_true, true_and, eq_self, Int.add_zero, Int.reduceAdd]; omega) | (simp (disch := omega) only [sA_same, sA_ne, ud_eq, ud_ne, Int.add_zero, Int.reduceAdd]; omega)) rfl ?_
    refine v_call_v (n := 120) xB_7 dX0_tells_117 xO_7 iv_0_36 rfl (sh_66 _ _ _) rfl rfl rfl ?_
    refine k_prints (by omega) (by first | omega | (simp only [sA_same, sA_s, ud_s, Int.reduceEq, if_true, if_false, ite_true, ite_false, ↓reduceIte, and_true, true_and, eq_self, Int.add_zero, Int.reduceAdd]; omega) | (simp (disch := omega) only [sA_same, sA_ne, ud_eq, ud_ne, Int.add_zero, Int.reduceAdd]; omega)) (by first | omega | (simp only [sA_same, sA_s, ud_s, Int.reduceEq, if_true, if_false, ite_true, ite_false, ↓reduceIte, and_true, true_and, eq_self, Int.add_zero, Int.reduceAdd]; omega) | (simp (disch := omega) only [sA_same, sA_ne, ud_eq, ud_ne, Int.add_zero, Int.reduceAdd]; omega)) (by first | omega | (simp only [sA_same, sA_s, ud_s, Int.reduceEq, if_true, if_false, ite_true, ite_false, ↓reduceIte, and_true, true_and, eq_self, Int.add_zero, Int.reduceAdd]; omega) | (simp (disch := omega) only [sA_same, sA_ne, ud_eq, ud_ne, Int.add_zero, Int.reduceAdd]; omega)) (by first | omega | (simp only [sA_same, sA_s, ud_s, Int.reduceEq, if_true, if_false, ite_true, ite_false, ↓reduceIte, and_true, true_and, eq_self, Int.add_zero, Int.reduceAdd]; omega) | (simp (disch := omega) only [sA_same, sA_ne, ud_eq, ud_ne, Int.add_zero, Int.reduceAdd]; omega)) ?_
    (try simp (disch := omega) only [sA_same, sA_ne, sA_sA, sA_sr, sB_s, ud_eq, ud_ne, ud_ud, ud_sr, uB_s, Int.add_zero, Int.reduceAdd])
    refine v_iconst (n := 121) xB_7 dX0_tells_120 ⟨by decide, by decide⟩ rfl ?_
    refine v_imulw (n := 122) xB_7 dX0_tells_121 rfl ?_
    refine v_goto (t := 126) xB_7 dX0_tells_122 (by decide) rfl ?_
    refine v_ireturn0 xB_7 dX0_tells_126 xK_7 ?_
    exact o1
set_option maxHeartbeats 1000000 in
theorem k_tells {d : Nat} {k x dp : Int} {m : PM} {dy : List (Nat × Nat)} {L : Nat} {Q : Option PV → PS → Prop} (hd : 8 ≤ d) (hr : 0 ≤ m 66 1 ∧ m 66 1 + 12 ≤ 20) (hdp : 0 ≤ dp ∧ dp ≤ 11) (hkk : k = m 66 3) (h3 : 0 ≤ m 66 3 ∧ m 66 3 ≤ 6) (o1 : Q (some (.inl (tV (m 66 3) (m 66 2) (m 66 4) x))) (setA (setA m 66 (ud (m 66) 1 (rsL (m 66 1) (tL (m 66 3))))) 67 (ap (m 67) (m 66 1) (tL (m 66 3))), (none, (dy, L)))) : C d 7 [.inr (.inr 66), .inl k, .inl x, .inl dp] (m, (none, (dy, L))) Q := by
  refine C_go (k := 7) hd xL_7 (fun d hd => ?_)
  show V d 7 (0, ([some (.inr (.inr 66)), some (.inl k), some (.inl x), some (.inl dp)], ([], (m, (none, (dy, L)))))) Q
  rcases (by omega : k = 0 ∨ k = 1 ∨ k = 2 ∨ k = 3 ∨ k = 4 ∨ k = 5 ∨ k = 6) with hk | hk | hk | hk | hk | hk | hk
  · have hm : m 66 3 = 0 := by omega
    rw [hm] at o1
    subst hk
    refine v_iload_n (n := 1) xB_7 dX0_tells_0 rfl rfl ?_
    refine v_tsw xB_7 dX0_tells_1 rfl ?_
    refine ts_c (lo' := 4) rfl (fun g1 => ?_) (fun g1 => ?_)
    · refine jm_go (t := 32) (by decide) rfl ?_
      exfalso; omega
    refine ts_c (lo' := 5) rfl (fun g2 => ?_) (fun g2 => ?_)
    · refine jm_go (t := 98) (by decide) rfl ?_
      exfalso; omega
    refine ts_c (lo' := 6) rfl (fun g3 => ?_) (fun g3 => ?_)
    · refine jm_go (t := 69) (by decide) rfl ?_
      exfalso; omega
    refine ts_c (lo' := 7) rfl (fun g4 => ?_) (fun g4 => ?_)
    · refine jm_go (t := 32) (by decide) rfl ?_
      exfalso; omega
    refine ts_n ?_
    refine jm_go (t := 98) (by decide) rfl ?_
    refine v_aload_n (n := 99) xB_7 dX0_tells_98 rfl rfl ?_
    refine v_bipush (n := 101) xB_7 dX0_tells_99 ⟨by decide, by decide⟩ rfl ?_
    refine v_iload_n (n := 102) xB_7 dX0_tells_101 rfl rfl ?_
    refine v_call_v (n := 105) xB_7 dX0_tells_102 xO_7 iv_0_42 rfl (sh_66 _ _ _) rfl rfl rfl ?_
    refine k_begins (by omega) (by first | omega | (simp only [sA_same, sA_s, ud_s, Int.reduceEq, if_true, if_false, ite_true, ite_false, ↓reduceIte, and_true, true_and, eq_self, Int.add_zero, Int.reduceAdd]; omega) | (simp (disch := omega) only [sA_same, sA_ne, ud_eq, ud_ne, Int.add_zero, Int.reduceAdd]; omega)) (by first | omega | (simp only [sA_same, sA_s, ud_s, Int.reduceEq, if_true, if_false, ite_true, ite_false, ↓reduceIte, and_true, true_and, eq_self, Int.add_zero, Int.reduceAdd]; omega) | (simp (disch := omega) only [sA_same, sA_ne, ud_eq, ud_ne, Int.add_zero, Int.reduceAdd]; omega)) ?_
    (try simp (disch := omega) only [sA_same, sA_ne, sA_sA, sA_sr, sB_s, ud_eq, ud_ne, ud_ud, ud_sr, uB_s, Int.add_zero, Int.reduceAdd])
    refine v_if_eq_n (n := 108) xB_7 dX0_tells_105 (by decide) rfl (by decide) ?_
    refine v_aload_n (n := 109) xB_7 dX0_tells_108 rfl rfl ?_
    refine v_aload_n (n := 110) xB_7 dX0_tells_109 rfl rfl ?_
    refine v_gf_i (n := 113) (kz := 3) xB_7 dX0_tells_110 xO_7 fl_0_27 fg_0_3 rfl (sh_66 _ _ _) rfl rfl ?_
    refine v_iload_n (n := 114) xB_7 dX0_tells_113 rfl rfl ?_
    refine v_iload_n (n := 115) xB_7 dX0_tells_114 rfl rfl ?_
    refine v_iconst (n := 116) xB_7 dX0_tells_115 ⟨by decide, by decide⟩ rfl ?_
    refine v_iadd (n := 117) xB_7 dX0_tells_116 (by first | omega | (simp only [sA_same, sA_s, ud_s, Int.reduceEq, if_true, if_false, ite_true, ite_false, ↓reduceIte, and_true, true_and, eq_self, Int.add_zero, Int.reduceAdd]; omega) | (simp (disch := omega) only [sA_same, sA_ne, ud_eq, ud_ne, Int.add_zero, Int.reduceAdd]; omega)) rfl ?_
    refine v_call_v (n := 120) xB_7 dX0_tells_117 xO_7 iv_0_36 rfl (sh_66 _ _ _) rfl rfl rfl ?_
    refine k_prints (by omega) (by first | omega | (simp only [sA_same, sA_s, ud_s, Int.reduceEq, if_true, if_false, ite_true, ite_false, ↓reduceIte, and_true, true_and, eq_self, Int.add_zero, Int.reduceAdd]; omega) | (simp (disch := omega) only [sA_same, sA_ne, ud_eq, ud_ne, Int.add_zero, Int.reduceAdd]; omega)) (by first | omega | (simp only [sA_same, sA_s, ud_s, Int.reduceEq, if_true, if_false, ite_true, ite_false, ↓reduceIte, and_true, true_and, eq_self, Int.add_zero, Int.reduceAdd]; omega) | (simp (disch := omega) only [sA_same, sA_ne, ud_eq, ud_ne, Int.add_zero, Int.reduceAdd]; omega)) (by first | omega | (simp only [sA_same, sA_s, ud_s, Int.reduceEq, if_true, if_false, ite_true, ite_false, ↓reduceIte, and_true, true_and, eq_self, Int.add_zero, Int.reduceAdd]; omega) | (simp (disch := omega) only [sA_same, sA_ne, ud_eq, ud_ne, Int.add_zero, Int.reduceAdd]; omega)) (by first | omega | (simp only [sA_same, sA_s, ud_s, Int.reduceEq, if_true, if_false, ite_true, ite_false, ↓reduceIte, and_true, true_and, eq_self, Int.add_zero, Int.reduceAdd]; omega) | (simp (disch := omega) only [sA_same, sA_ne, ud_eq, ud_ne, Int.add_zero, Int.reduceAdd]; omega)) ?_
    (try simp (disch := omega) only [sA_same, sA_ne, sA_sA, sA_sr, sB_s, ud_eq, ud_ne, ud_ud, ud_sr, uB_s, Int.add_zero, Int.reduceAdd])
    refine v_iconst (n := 121) xB_7 dX0_tells_120 ⟨by decide, by decide⟩ rfl ?_
    refine v_imulw (n := 122) xB_7 dX0_tells_121 rfl ?_
    refine v_goto (t := 126) xB_7 dX0_tells_122 (by decide) rfl ?_
    refine v_ireturn0 xB_7 dX0_tells_126 xK_7 ?_
    (try rw [hm])
    first | exact o1 | (rw [show tL 3 = (40 :: 12 :: pL 3) ++ pL 3 from rfl, rsL_app, ap_app] at o1; exact o1) | (rw [show tL 6 = (40 :: 12 :: pL 6) ++ pL 6 from rfl, rsL_app, ap_app] at o1; exact o1)
  · have hm : m 66 3 = 1 := by omega
    rw [hm] at o1
    subst hk
    refine v_iload_n (n := 1) xB_7 dX0_tells_0 rfl rfl ?_
    refine v_tsw xB_7 dX0_tells_1 rfl ?_
    refine ts_c (lo' := 4) rfl (fun g1 => ?_) (fun g1 => ?_)
    · refine jm_go (t := 32) (by decide) rfl ?_
      exfalso; omega
    refine ts_c (lo' := 5) rfl (fun g2 => ?_) (fun g2 => ?_)
    · refine jm_go (t := 98) (by decide) rfl ?_
      exfalso; omega
    refine ts_c (lo' := 6) rfl (fun g3 => ?_) (fun g3 => ?_)
    · refine jm_go (t := 69) (by decide) rfl ?_
      exfalso; omega
    refine ts_c (lo' := 7) rfl (fun g4 => ?_) (fun g4 => ?_)
    · refine jm_go (t := 32) (by decide) rfl ?_
      exfalso; omega
    refine ts_n ?_
    refine jm_go (t := 98) (by decide) rfl ?_
    refine v_aload_n (n := 99) xB_7 dX0_tells_98 rfl rfl ?_
    refine v_bipush (n := 101) xB_7 dX0_tells_99 ⟨by decide, by decide⟩ rfl ?_
    refine v_iload_n (n := 102) xB_7 dX0_tells_101 rfl rfl ?_
    refine v_call_v (n := 105) xB_7 dX0_tells_102 xO_7 iv_0_42 rfl (sh_66 _ _ _) rfl rfl rfl ?_
    refine k_begins (by omega) (by first | omega | (simp only [sA_same, sA_s, ud_s, Int.reduceEq, if_true, if_false, ite_true, ite_false, ↓reduceIte, and_true, true_and, eq_self, Int.add_zero, Int.reduceAdd]; omega) | (simp (disch := omega) only [sA_same, sA_ne, ud_eq, ud_ne, Int.add_zero, Int.reduceAdd]; omega)) (by first | omega | (simp only [sA_same, sA_s, ud_s, Int.reduceEq, if_true, if_false, ite_true, ite_false, ↓reduceIte, and_true, true_and, eq_self, Int.add_zero, Int.reduceAdd]; omega) | (simp (disch := omega) only [sA_same, sA_ne, ud_eq, ud_ne, Int.add_zero, Int.reduceAdd]; omega)) ?_
    (try simp (disch := omega) only [sA_same, sA_ne, sA_sA, sA_sr, sB_s, ud_eq, ud_ne, ud_ud, ud_sr, uB_s, Int.add_zero, Int.reduceAdd])
    refine v_if_eq_n (n := 108) xB_7 dX0_tells_105 (by decide) rfl (by decide) ?_
    refine v_aload_n (n := 109) xB_7 dX0_tells_108 rfl rfl ?_
    refine v_aload_n (n := 110) xB_7 dX0_tells_109 rfl rfl ?_
    refine v_gf_i (n := 113) (kz := 3) xB_7 dX0_tells_110 xO_7 fl_0_27 fg_0_3 rfl (sh_66 _ _ _) rfl rfl ?_
    refine v_iload_n (n := 114) xB_7 dX0_tells_113 rfl rfl ?_
    refine v_iload_n (n := 115) xB_7 dX0_tells_114 rfl rfl ?_
    refine v_iconst (n := 116) xB_7 dX0_tells_115 ⟨by decide, by decide⟩ rfl ?_
    refine v_iadd (n := 117) xB_7 dX0_tells_116 (by first | omega | (simp only [sA_same, sA_s, ud_s, Int.reduceEq, if_true, if_false, ite_true, ite_false, ↓reduceIte, and_true, true_and, eq_self, Int.add_zero, Int.reduceAdd]; omega) | (simp (disch := omega) only [sA_same, sA_ne, ud_eq, ud_ne, Int.add_zero, Int.reduceAdd]; omega)) rfl ?_
    refine v_call_v (n := 120) xB_7 dX0_tells_117 xO_7 iv_0_36 rfl (sh_66 _ _ _) rfl rfl rfl ?_
    refine k_prints (by omega) (by first | omega | (simp only [sA_same, sA_s, ud_s, Int.reduceEq, if_true, if_false, ite_true, ite_false, ↓reduceIte, and_true, true_and, eq_self, Int.add_zero, Int.reduceAdd]; omega) | (simp (disch := omega) only [sA_same, sA_ne, ud_eq, ud_ne, Int.add_zero, Int.reduceAdd]; omega)) (by first | omega | (simp only [sA_same, sA_s, ud_s, Int.reduceEq, if_true, if_false, ite_true, ite_false, ↓reduceIte, and_true, true_and, eq_self, Int.add_zero, Int.reduceAdd]; omega) | (simp (disch := omega) only [sA_same, sA_ne, ud_eq, ud_ne, Int.add_zero, Int.reduceAdd]; omega)) (by first | omega | (simp only [sA_same, sA_s, ud_s, Int.reduceEq, if_true, if_false, ite_true, ite_false, ↓reduceIte, and_true, true_and, eq_self, Int.add_zero, Int.reduceAdd]; omega) | (simp (disch := omega) only [sA_same, sA_ne, ud_eq, ud_ne, Int.add_zero, Int.reduceAdd]; omega)) (by first | omega | (simp only [sA_same, sA_s, ud_s, Int.reduceEq, if_true, if_false, ite_true, ite_false, ↓reduceIte, and_true, true_and, eq_self, Int.add_zero, Int.reduceAdd]; omega) | (simp (disch := omega) only [sA_same, sA_ne, ud_eq, ud_ne, Int.add_zero, Int.reduceAdd]; omega)) ?_
    (try simp (disch := omega) only [sA_same, sA_ne, sA_sA, sA_sr, sB_s, ud_eq, ud_ne, ud_ud, ud_sr, uB_s, Int.add_zero, Int.reduceAdd])
    refine v_iconst (n := 121) xB_7 dX0_tells_120 ⟨by decide, by decide⟩ rfl ?_
    refine v_imulw (n := 122) xB_7 dX0_tells_121 rfl ?_
    refine v_goto (t := 126) xB_7 dX0_tells_122 (by decide) rfl ?_
    refine v_ireturn0 xB_7 dX0_tells_126 xK_7 ?_
    (try rw [hm])
    first | exact o1 | (rw [show tL 3 = (40 :: 12 :: pL 3) ++ pL 3 from rfl, rsL_app, ap_app] at o1; exact o1) | (rw [show tL 6 = (40 :: 12 :: pL 6) ++ pL 6 from rfl, rsL_app, ap_app] at o1; exact o1)
  · have hm : m 66 3 = 2 := by omega
    rw [hm] at o1
    subst hk
    refine v_iload_n (n := 1) xB_7 dX0_tells_0 rfl rfl ?_
    refine v_tsw xB_7 dX0_tells_1 rfl ?_
    refine ts_c (lo' := 4) rfl (fun g1 => ?_) (fun g1 => ?_)
    · refine jm_go (t := 32) (by decide) rfl ?_
      exfalso; omega
    refine ts_c (lo' := 5) rfl (fun g2 => ?_) (fun g2 => ?_)
    · refine jm_go (t := 98) (by decide) rfl ?_
      exfalso; omega
    refine ts_c (lo' := 6) rfl (fun g3 => ?_) (fun g3 => ?_)
    · refine jm_go (t := 69) (by decide) rfl ?_
      exfalso; omega
    refine ts_c (lo' := 7) rfl (fun g4 => ?_) (fun g4 => ?_)
    · refine jm_go (t := 32) (by decide) rfl ?_
      exfalso; omega
    refine ts_n ?_
    refine jm_go (t := 98) (by decide) rfl ?_
    refine v_aload_n (n := 99) xB_7 dX0_tells_98 rfl rfl ?_
    refine v_bipush (n := 101) xB_7 dX0_tells_99 ⟨by decide, by decide⟩ rfl ?_
    refine v_iload_n (n := 102) xB_7 dX0_tells_101 rfl rfl ?_
    refine v_call_v (n := 105) xB_7 dX0_tells_102 xO_7 iv_0_42 rfl (sh_66 _ _ _) rfl rfl rfl ?_
    refine k_begins (by omega) (by first | omega | (simp only [sA_same, sA_s, ud_s, Int.reduceEq, if_true, if_false, ite_true, ite_false, ↓reduceIte, and_true, true_and, eq_self, Int.add_zero, Int.reduceAdd]; omega) | (simp (disch := omega) only [sA_same, sA_ne, ud_eq, ud_ne, Int.add_zero, Int.reduceAdd]; omega)) (by first | omega | (simp only [sA_same, sA_s, ud_s, Int.reduceEq, if_true, if_false, ite_true, ite_false, ↓reduceIte, and_true, true_and, eq_self, Int.add_zero, Int.reduceAdd]; omega) | (simp (disch := omega) only [sA_same, sA_ne, ud_eq, ud_ne, Int.add_zero, Int.reduceAdd]; omega)) ?_
    (try simp (disch := omega) only [sA_same, sA_ne, sA_sA, sA_sr, sB_s, ud_eq, ud_ne, ud_ud, ud_sr, uB_s, Int.add_zero, Int.reduceAdd])
    refine v_if_eq_n (n := 108) xB_7 dX0_tells_105 (by decide) rfl (by decide) ?_
    refine v_aload_n (n := 109) xB_7 dX0_tells_108 rfl rfl ?_
    refine v_aload_n (n := 110) xB_7 dX0_tells_109 rfl rfl ?_
    refine v_gf_i (n := 113) (kz := 3) xB_7 dX0_tells_110 xO_7 fl_0_27 fg_0_3 rfl (sh_66 _ _ _) rfl rfl ?_
    refine v_iload_n (n := 114) xB_7 dX0_tells_113 rfl rfl ?_
    refine v_iload_n (n := 115) xB_7 dX0_tells_114 rfl rfl ?_
    refine v_iconst (n := 116) xB_7 dX0_tells_115 ⟨by decide, by decide⟩ rfl ?_
    refine v_iadd (n := 117) xB_7 dX0_tells_116 (by first | omega | (simp only [sA_same, sA_s, ud_s, Int.reduceEq, if_true, if_false, ite_true, ite_false, ↓reduceIte, and_true, true_and, eq_self, Int.add_zero, Int.reduceAdd]; omega) | (simp (disch := omega) only [sA_same, sA_ne, ud_eq, ud_ne, Int.add_zero, Int.reduceAdd]; omega)) rfl ?_
    refine v_call_v (n := 120) xB_7 dX0_tells_117 xO_7 iv_0_36 rfl (sh_66 _ _ _) rfl rfl rfl ?_
    refine k_prints (by omega) (by first | omega | (simp only [sA_same, sA_s, ud_s, Int.reduceEq, if_true, if_false, ite_true, ite_false, ↓reduceIte, and_true, true_and, eq_self, Int.add_zero, Int.reduceAdd]; omega) | (simp (disch := omega) only [sA_same, sA_ne, ud_eq, ud_ne, Int.add_zero, Int.reduceAdd]; omega)) (by first | omega | (simp only [sA_same, sA_s, ud_s, Int.reduceEq, if_true, if_false, ite_true, ite_false, ↓reduceIte, and_true, true_and, eq_self, Int.add_zero, Int.reduceAdd]; omega) | (simp (disch := omega) only [sA_same, sA_ne, ud_eq, ud_ne, Int.add_zero, Int.reduceAdd]; omega)) (by first | omega | (simp only [sA_same, sA_s, ud_s, Int.reduceEq, if_true, if_false, ite_true, ite_false, ↓reduceIte, and_true, true_and, eq_self, Int.add_zero, Int.reduceAdd]; omega) | (simp (disch := omega) only [sA_same, sA_ne, ud_eq, ud_ne, Int.add_zero, Int.reduceAdd]; omega)) (by first | omega | (simp only [sA_same, sA_s, ud_s, Int.reduceEq, if_true, if_false, ite_true, ite_false, ↓reduceIte, and_true, true_and, eq_self, Int.add_zero, Int.reduceAdd]; omega) | (simp (disch := omega) only [sA_same, sA_ne, ud_eq, ud_ne, Int.add_zero, Int.reduceAdd]; omega)) ?_
    (try simp (disch := omega) only [sA_same, sA_ne, sA_sA, sA_sr, sB_s, ud_eq, ud_ne, ud_ud, ud_sr, uB_s, Int.add_zero, Int.reduceAdd])
    refine v_iconst (n := 121) xB_7 dX0_tells_120 ⟨by decide, by decide⟩ rfl ?_
    refine v_imulw (n := 122) xB_7 dX0_tells_121 rfl ?_
    refine v_goto (t := 126) xB_7 dX0_tells_122 (by decide) rfl ?_
    refine v_ireturn0 xB_7 dX0_tells_126 xK_7 ?_
    (try rw [hm])
    first | exact o1 | (rw [show tL 3 = (40 :: 12 :: pL 3) ++ pL 3 from rfl, rsL_app, ap_app] at o1; exact o1) | (rw [show tL 6 = (40 :: 12 :: pL 6) ++ pL 6 from rfl, rsL_app, ap_app] at o1; exact o1)
  · have hm : m 66 3 = 3 := by omega
    rw [hm] at o1
    subst hk
    refine v_iload_n (n := 1) xB_7 dX0_tells_0 rfl rfl ?_
    refine v_tsw xB_7 dX0_tells_1 rfl ?_
    refine ts_c (lo' := 4) rfl (fun g1 => ?_) (fun g1 => ?_)
    · refine jm_go (t := 32) (by decide) rfl ?_
      refine v_aload_n (n := 33) xB_7 dX0_tells_32 rfl rfl ?_
      refine v_bipush (n := 35) xB_7 dX0_tells_33 ⟨by decide, by decide⟩ rfl ?_
      refine v_iload_n (n := 36) xB_7 dX0_tells_35 rfl rfl ?_
      refine v_call_v (n := 39) xB_7 dX0_tells_36 xO_7 iv_0_42 rfl (sh_66 _ _ _) rfl rfl rfl ?_
      refine k_begins (by omega) (by first | omega | (simp only [sA_same, sA_s, ud_s, Int.reduceEq, if_true, if_false, ite_true, ite_false, ↓reduceIte, and_true, true_and, eq_self, Int.add_zero, Int.reduceAdd]; omega) | (simp (disch := omega) only [sA_same, sA_ne, ud_eq, ud_ne, Int.add_zero, Int.reduceAdd]; omega)) (by first | omega | (simp only [sA_same, sA_s, ud_s, Int.reduceEq, if_true, if_false, ite_true, ite_false, ↓reduceIte, and_true, true_and, eq_self, Int.add_zero, Int.reduceAdd]; omega) | (simp (disch := omega) only [sA_same, sA_ne, ud_eq, ud_ne, Int.add_zero, Int.reduceAdd]; omega)) ?_
      (try simp (disch := omega) only [sA_same, sA_ne, sA_sA, sA_sr, sB_s, ud_eq, ud_ne, ud_ud, ud_sr, uB_s, Int.add_zero, Int.reduceAdd])
      refine v_if_eq_n (n := 42) xB_7 dX0_tells_39 (by decide) rfl (by decide) ?_
      refine v_aload_n (n := 43) xB_7 dX0_tells_42 rfl rfl ?_
      refine v_iconst (n := 44) xB_7 dX0_tells_43 ⟨by decide, by decide⟩ rfl ?_
      refine v_iload_n (n := 45) xB_7 dX0_tells_44 rfl rfl ?_
      refine v_iload_n (n := 46) xB_7 dX0_tells_45 rfl rfl ?_
      refine v_iconst (n := 47) xB_7 dX0_tells_46 ⟨by decide, by decide⟩ rfl ?_
      refine v_iadd (n := 48) xB_7 dX0_tells_47 (by first | omega | (simp only [sA_same, sA_s, ud_s, Int.reduceEq, if_true, if_false, ite_true, ite_false, ↓reduceIte, and_true, true_and, eq_self, Int.add_zero, Int.reduceAdd]; omega) | (simp (disch := omega) only [sA_same, sA_ne, ud_eq, ud_ne, Int.add_zero, Int.reduceAdd]; omega)) rfl ?_
      refine v_call_v (n := 51) xB_7 dX0_tells_48 xO_7 iv_0_39 rfl (sh_66 _ _ _) rfl rfl rfl ?_
      refine kt_D (by omega) (by first | omega | (simp only [sA_same, sA_s, ud_s, Int.reduceEq, if_true, if_false, ite_true, ite_false, ↓reduceIte, and_true, true_and, eq_self, Int.add_zero, Int.reduceAdd]; omega) | (simp (disch := omega) only [sA_same, sA_ne, ud_eq, ud_ne, Int.add_zero, Int.reduceAdd]; omega)) (by first | omega | (simp only [sA_same, sA_s, ud_s, Int.reduceEq, if_true, if_false, ite_true, ite_false, ↓reduceIte, and_true, true_and, eq_self, Int.add_zero, Int.reduceAdd]; omega) | (simp (disch := omega) only [sA_same, sA_ne, ud_eq, ud_ne, Int.add_zero, Int.reduceAdd]; omega)) (by first | omega | (simp only [sA_same, sA_s, ud_s, Int.reduceEq, if_true, if_false, ite_true, ite_false, ↓reduceIte, and_true, true_and, eq_self, Int.add_zero, Int.reduceAdd]; omega) | (simp (disch := omega) only [sA_same, sA_ne, ud_eq, ud_ne, Int.add_zero, Int.reduceAdd]; omega)) (by first | omega | (simp only [sA_same, sA_s, ud_s, Int.reduceEq, if_true, if_false, ite_true, ite_false, ↓reduceIte, and_true, true_and, eq_self, Int.add_zero, Int.reduceAdd]; omega) | (simp (disch := omega) only [sA_same, sA_ne, ud_eq, ud_ne, Int.add_zero, Int.reduceAdd]; omega)) ?_
      (try simp (disch := omega) only [sA_same, sA_ne, sA_sA, sA_sr, sB_s, ud_eq, ud_ne, ud_ud, ud_sr, uB_s, Int.add_zero, Int.reduceAdd])
      refine v_aload_n (n := 52) xB_7 dX0_tells_51 rfl rfl ?_
      refine v_aload_n (n := 53) xB_7 dX0_tells_52 rfl rfl ?_
      refine v_gf_i (n := 56) (kz := 3) xB_7 dX0_tells_53 xO_7 fl_0_27 fg_0_3 rfl (sh_66 _ _ _) rfl rfl ?_
      refine v_iconst (n := 57) xB_7 dX0_tells_56 ⟨by decide, by decide⟩ rfl ?_
      refine v_iload_n (n := 58) xB_7 dX0_tells_57 rfl rfl ?_
      refine v_iconst (n := 59) xB_7 dX0_tells_58 ⟨by decide, by decide⟩ rfl ?_
      refine v_iadd (n := 60) xB_7 dX0_tells_59 (by first | omega | (simp only [sA_same, sA_s, ud_s, Int.reduceEq, if_true, if_false, ite_true, ite_false, ↓reduceIte, and_true, true_and, eq_self, Int.add_zero, Int.reduceAdd]; omega) | (simp (disch := omega) only [sA_same, sA_ne, ud_eq, ud_ne, Int.add_zero, Int.reduceAdd]; omega)) rfl ?_
      refine v_call_v (n := 63) xB_7 dX0_tells_60 xO_7 iv_0_36 rfl (sh_66 _ _ _) rfl rfl rfl ?_
      refine k_prints (by omega) (by have q := rsL_n (12 :: pL (m 66 3)) (m 66 1 + 1); have q2 := fL_len (m 66 3); have q3 := pL_len (m 66 3); simp only [List.length_cons, List.length_append, List.length_nil] at q; simp (disch := omega) only [sA_ne, sA_same, ud_eq, ud_ne]; omega) (by first | omega | (simp only [sA_same, sA_s, ud_s, Int.reduceEq, if_true, if_false, ite_true, ite_false, ↓reduceIte, and_true, true_and, eq_self, Int.add_zero, Int.reduceAdd]; omega) | (simp (disch := omega) only [sA_same, sA_ne, ud_eq, ud_ne, Int.add_zero, Int.reduceAdd]; omega)) (by first | omega | (simp only [sA_same, sA_s, ud_s, Int.reduceEq, if_true, if_false, ite_true, ite_false, ↓reduceIte, and_true, true_and, eq_self, Int.add_zero, Int.reduceAdd]; omega) | (simp (disch := omega) only [sA_same, sA_ne, ud_eq, ud_ne, Int.add_zero, Int.reduceAdd]; omega)) (by first | omega | (simp only [sA_same, sA_s, ud_s, Int.reduceEq, if_true, if_false, ite_true, ite_false, ↓reduceIte, and_true, true_and, eq_self, Int.add_zero, Int.reduceAdd]; omega) | (simp (disch := omega) only [sA_same, sA_ne, ud_eq, ud_ne, Int.add_zero, Int.reduceAdd]; omega)) ?_
      (try simp (disch := omega) only [sA_same, sA_ne, sA_sA, sA_sr, sB_s, ud_eq, ud_ne, ud_ud, ud_sr, uB_s, Int.add_zero, Int.reduceAdd])
      refine v_iaddw (n := 64) xB_7 dX0_tells_63 rfl ?_
      refine v_goto (t := 68) xB_7 dX0_tells_64 (by decide) rfl ?_
      refine v_ireturn0 xB_7 dX0_tells_68 xK_7 ?_
      (try rw [hm])
      first | exact o1 | (rw [show tL 3 = (40 :: 12 :: pL 3) ++ pL 3 from rfl, rsL_app, ap_app] at o1; exact o1) | (rw [show tL 6 = (40 :: 12 :: pL 6) ++ pL 6 from rfl, rsL_app, ap_app] at o1; exact o1)
    refine ts_c (lo' := 5) rfl (fun g2 => ?_) (fun g2 => ?_)
    · refine jm_go (t := 98) (by decide) rfl ?_
      exfalso; omega
    refine ts_c (lo' := 6) rfl (fun g3 => ?_) (fun g3 => ?_)
    · refine jm_go (t := 69) (by decide) rfl ?_
      exfalso; omega
    refine ts_c (lo' := 7) rfl (fun g4 => ?_) (fun g4 => ?_)
    · refine jm_go (t := 32) (by decide) rfl ?_
      exfalso; omega
    refine ts_n ?_
    refine jm_go (t := 98) (by decide) rfl ?_
    exfalso; omega
  · have hm : m 66 3 = 4 := by omega
    rw [hm] at o1
    subst hk
    refine v_iload_n (n := 1) xB_7 dX0_tells_0 rfl rfl ?_
    refine v_tsw xB_7 dX0_tells_1 rfl ?_
    refine ts_c (lo' := 4) rfl (fun g1 => ?_) (fun g1 => ?_)
    · refine jm_go (t := 32) (by decide) rfl ?_
      exfalso; omega
    refine ts_c (lo' := 5) rfl (fun g2 => ?_) (fun g2 => ?_)
    · refine jm_go (t := 98) (by decide) rfl ?_
      refine v_aload_n (n := 99) xB_7 dX0_tells_98 rfl rfl ?_
      refine v_bipush (n := 101) xB_7 dX0_tells_99 ⟨by decide, by decide⟩ rfl ?_
      refine v_iload_n (n := 102) xB_7 dX0_tells_101 rfl rfl ?_
      refine v_call_v (n := 105) xB_7 dX0_tells_102 xO_7 iv_0_42 rfl (sh_66 _ _ _) rfl rfl rfl ?_
      refine k_begins (by omega) (by first | omega | (simp only [sA_same, sA_s, ud_s, Int.reduceEq, if_true, if_false, ite_true, ite_false, ↓reduceIte, and_true, true_and, eq_self, Int.add_zero, Int.reduceAdd]; omega) | (simp (disch := omega) only [sA_same, sA_ne, ud_eq, ud_ne, Int.add_zero, Int.reduceAdd]; omega)) (by first | omega | (simp only [sA_same, sA_s, ud_s, Int.reduceEq, if_true, if_false, ite_true, ite_false, ↓reduceIte, and_true, true_and, eq_self, Int.add_zero, Int.reduceAdd]; omega) | (simp (disch := omega) only [sA_same, sA_ne, ud_eq, ud_ne, Int.add_zero, Int.reduceAdd]; omega)) ?_
      (try simp (disch := omega) only [sA_same, sA_ne, sA_sA, sA_sr, sB_s, ud_eq, ud_ne, ud_ud, ud_sr, uB_s, Int.add_zero, Int.reduceAdd])
      refine v_if_eq_n (n := 108) xB_7 dX0_tells_105 (by decide) rfl (by decide) ?_
      refine v_aload_n (n := 109) xB_7 dX0_tells_108 rfl rfl ?_
      refine v_aload_n (n := 110) xB_7 dX0_tells_109 rfl rfl ?_
      refine v_gf_i (n := 113) (kz := 3) xB_7 dX0_tells_110 xO_7 fl_0_27 fg_0_3 rfl (sh_66 _ _ _) rfl rfl ?_
      refine v_iload_n (n := 114) xB_7 dX0_tells_113 rfl rfl ?_
      refine v_iload_n (n := 115) xB_7 dX0_tells_114 rfl rfl ?_
      refine v_iconst (n := 116) xB_7 dX0_tells_115 ⟨by decide, by decide⟩ rfl ?_
      refine v_iadd (n := 117) xB_7 dX0_tells_116 (by first | omega | (simp only [sA_same, sA_s, ud_s, Int.reduceEq, if_true, if_false, ite_true, ite_false, ↓reduceIte, and_true, true_and, eq_self, Int.add_zero, Int.reduceAdd]; omega) | (simp (disch := omega) only [sA_same, sA_ne, ud_eq, ud_ne, Int.add_zero, Int.reduceAdd]; omega)) rfl ?_
      refine v_call_v (n := 120) xB_7 dX0_tells_117 xO_7 iv_0_36 rfl (sh_66 _ _ _) rfl rfl rfl ?_
      refine k_prints (by omega) (by first | omega | (simp only [sA_same, sA_s, ud_s, Int.reduceEq, if_true, if_false, ite_true, ite_false, ↓reduceIte, and_true, true_and, eq_self, Int.add_zero, Int.reduceAdd]; omega) | (simp (disch := omega) only [sA_same, sA_ne, ud_eq, ud_ne, Int.add_zero, Int.reduceAdd]; omega)) (by first | omega | (simp only [sA_same, sA_s, ud_s, Int.reduceEq, if_true, if_false, ite_true, ite_false, ↓reduceIte, and_true, true_and, eq_self, Int.add_zero, Int.reduceAdd]; omega) | (simp (disch := omega) only [sA_same, sA_ne, ud_eq, ud_ne, Int.add_zero, Int.reduceAdd]; omega)) (by first | omega | (simp only [sA_same, sA_s, ud_s, Int.reduceEq, if_true, if_false, ite_true, ite_false, ↓reduceIte, and_true, true_and, eq_self, Int.add_zero, Int.reduceAdd]; omega) | (simp (disch := omega) only [sA_same, sA_ne, ud_eq, ud_ne, Int.add_zero, Int.reduceAdd]; omega)) (by first | omega | (simp only [sA_same, sA_s, ud_s, Int.reduceEq, if_true, if_false, ite_true, ite_false, ↓reduceIte, and_true, true_and, eq_self, Int.add_zero, Int.reduceAdd]; omega) | (simp (disch := omega) only [sA_same, sA_ne, ud_eq, ud_ne, Int.add_zero, Int.reduceAdd]; omega)) ?_
      (try simp (disch := omega) only [sA_same, sA_ne, sA_sA, sA_sr, sB_s, ud_eq, ud_ne, ud_ud, ud_sr, uB_s, Int.add_zero, Int.reduceAdd])
      refine v_iconst (n := 121) xB_7 dX0_tells_120 ⟨by decide, by decide⟩ rfl ?_
      refine v_imulw (n := 122) xB_7 dX0_tells_121 rfl ?_
      refine v_goto (t := 126) xB_7 dX0_tells_122 (by decide) rfl ?_
      refine v_ireturn0 xB_7 dX0_tells_126 xK_7 ?_
      (try rw [hm])
      first | exact o1 | (rw [show tL 3 = (40 :: 12 :: pL 3) ++ pL 3 from rfl, rsL_app, ap_app] at o1; exact o1) | (rw [show tL 6 = (40 :: 12 :: pL 6) ++ pL 6 from rfl, rsL_app, ap_app] at o1; exact o1)
    refine ts_c (lo' := 6) rfl (fun g3 => ?_) (fun g3 => ?_)
    · refine jm_go (t := 69) (by decide) rfl ?_
      exfalso; omega
    refine ts_c (lo' := 7) rfl (fun g4 => ?_) (fun g4 => ?_)
    · refine jm_go (t := 32) (by decide) rfl ?_
      exfalso; omega
    refine ts_n ?_
    refine jm_go (t := 98) (by decide) rfl ?_
    exfalso; omega
  · have hm : m 66 3 = 5 := by omega
    rw [hm] at o1
    subst hk
    refine v_iload_n (n := 1) xB_7 dX0_tells_0 rfl rfl ?_
    refine v_tsw xB_7 dX0_tells_1 rfl ?_
    refine ts_c (lo' := 4) rfl (fun g1 => ?_) (fun g1 => ?_)
    · refine jm_go (t := 32) (by decide) rfl ?_
      exfalso; omega
    refine ts_c (lo' := 5) rfl (fun g2 => ?_) (fun g2 => ?_)
    · refine jm_go (t := 98) (by decide) rfl ?_
      exfalso; omega
    refine ts_c (lo' := 6) rfl (fun g3 => ?_) (fun g3 => ?_)
    · refine jm_go (t := 69) (by decide) rfl ?_
      refine v_aload_n (n := 70) xB_7 dX0_tells_69 rfl rfl ?_
      refine v_bipush (n := 72) xB_7 dX0_tells_70 ⟨by decide, by decide⟩ rfl ?_
      refine v_iload_n (n := 73) xB_7 dX0_tells_72 rfl rfl ?_
      refine v_call_v (n := 76) xB_7 dX0_tells_73 xO_7 iv_0_42 rfl (sh_66 _ _ _) rfl rfl rfl ?_
      refine k_begins (by omega) (by first | omega | (simp only [sA_same, sA_s, ud_s, Int.reduceEq, if_true, if_false, ite_true, ite_false, ↓reduceIte, and_true, true_and, eq_self, Int.add_zero, Int.reduceAdd]; omega) | (simp (disch := omega) only [sA_same, sA_ne, ud_eq, ud_ne, Int.add_zero, Int.reduceAdd]; omega)) (by first | omega | (simp only [sA_same, sA_s, ud_s, Int.reduceEq, if_true, if_false, ite_true, ite_false, ↓reduceIte, and_true, true_and, eq_self, Int.add_zero, Int.reduceAdd]; omega) | (simp (disch := omega) only [sA_same, sA_ne, ud_eq, ud_ne, Int.add_zero, Int.reduceAdd]; omega)) ?_
      (try simp (disch := omega) only [sA_same, sA_ne, sA_sA, sA_sr, sB_s, ud_eq, ud_ne, ud_ud, ud_sr, uB_s, Int.add_zero, Int.reduceAdd])
      refine v_if_eq_n (n := 79) xB_7 dX0_tells_76 (by decide) rfl (by decide) ?_
      refine v_aload_n (n := 80) xB_7 dX0_tells_79 rfl rfl ?_
      refine v_iconst (n := 81) xB_7 dX0_tells_80 ⟨by decide, by decide⟩ rfl ?_
      refine v_iload_n (n := 82) xB_7 dX0_tells_81 rfl rfl ?_
      refine v_aload_n (n := 83) xB_7 dX0_tells_82 rfl rfl ?_
      refine v_gf_i (n := 86) (kz := 2) xB_7 dX0_tells_83 xO_7 fl_0_19 fg_0_2 rfl (sh_66 _ _ _) rfl rfl ?_
      refine v_isubw (n := 87) xB_7 dX0_tells_86 rfl ?_
      refine v_iload_n (n := 88) xB_7 dX0_tells_87 rfl rfl ?_
      refine v_iconst (n := 89) xB_7 dX0_tells_88 ⟨by decide, by decide⟩ rfl ?_
      refine v_iadd (n := 90) xB_7 dX0_tells_89 (by first | omega | (simp only [sA_same, sA_s, ud_s, Int.reduceEq, if_true, if_false, ite_true, ite_false, ↓reduceIte, and_true, true_and, eq_self, Int.add_zero, Int.reduceAdd]; omega) | (simp (disch := omega) only [sA_same, sA_ne, ud_eq, ud_ne, Int.add_zero, Int.reduceAdd]; omega)) rfl ?_
      refine v_call_v (n := 93) xB_7 dX0_tells_90 xO_7 iv_0_39 rfl (sh_66 _ _ _) rfl rfl rfl ?_
      refine kt_D (by omega) (by first | omega | (simp only [sA_same, sA_s, ud_s, Int.reduceEq, if_true, if_false, ite_true, ite_false, ↓reduceIte, and_true, true_and, eq_self, Int.add_zero, Int.reduceAdd]; omega) | (simp (disch := omega) only [sA_same, sA_ne, ud_eq, ud_ne, Int.add_zero, Int.reduceAdd]; omega)) (by first | omega | (simp only [sA_same, sA_s, ud_s, Int.reduceEq, if_true, if_false, ite_true, ite_false, ↓reduceIte, and_true, true_and, eq_self, Int.add_zero, Int.reduceAdd]; omega) | (simp (disch := omega) only [sA_same, sA_ne, ud_eq, ud_ne, Int.add_zero, Int.reduceAdd]; omega)) (by first | omega | (simp only [sA_same, sA_s, ud_s, Int.reduceEq, if_true, if_false, ite_true, ite_false, ↓reduceIte, and_true, true_and, eq_self, Int.add_zero, Int.reduceAdd]; omega) | (simp (disch := omega) only [sA_same, sA_ne, ud_eq, ud_ne, Int.add_zero, Int.reduceAdd]; omega)) (by first | omega | (simp only [sA_same, sA_s, ud_s, Int.reduceEq, if_true, if_false, ite_true, ite_false, ↓reduceIte, and_true, true_and, eq_self, Int.add_zero, Int.reduceAdd]; omega) | (simp (disch := omega) only [sA_same, sA_ne, ud_eq, ud_ne, Int.add_zero, Int.reduceAdd]; omega)) ?_
      (try simp (disch := omega) only [sA_same, sA_ne, sA_sA, sA_sr, sB_s, ud_eq, ud_ne, ud_ud, ud_sr, uB_s, Int.add_zero, Int.reduceAdd])
      refine v_goto (t := 97) xB_7 dX0_tells_93 (by decide) rfl ?_
      refine v_ireturn0 xB_7 dX0_tells_97 xK_7 ?_
      (try rw [hm])
      first | exact o1 | (rw [show tL 3 = (40 :: 12 :: pL 3) ++ pL 3 from rfl, rsL_app, ap_app] at o1; exact o1) | (rw [show tL 6 = (40 :: 12 :: pL 6) ++ pL 6 from rfl, rsL_app, ap_app] at o1; exact o1)
    refine ts_c (lo' := 7) rfl (fun g4 => ?_) (fun g4 => ?_)
    · refine jm_go (t := 32) (by decide) rfl ?_
      exfalso; omega
    refine ts_n ?_
    refine jm_go (t := 98) (by decide) rfl ?_
    exfalso; omega
  · have hm : m 66 3 = 6 := by omega
    rw [hm] at o1
    subst hk
    refine v_iload_n (n := 1) xB_7 dX0_tells_0 rfl rfl ?_
    refine v_tsw xB_7 dX0_tells_1 rfl ?_
    refine ts_c (lo' := 4) rfl (fun g1 => ?_) (fun g1 => ?_)
    · refine jm_go (t := 32) (by decide) rfl ?_
      exfalso; omega
    refine ts_c (lo' := 5) rfl (fun g2 => ?_) (fun g2 => ?_)
    · refine jm_go (t := 98) (by decide) rfl ?_
      exfalso; omega
    refine ts_c (lo' := 6) rfl (fun g3 => ?_) (fun g3 => ?_)
    · refine jm_go (t := 69) (by decide) rfl ?_
      exfalso; omega
    refine ts_c (lo' := 7) rfl (fun g4 => ?_) (fun g4 => ?_)
    · refine jm_go (t := 32) (by decide) rfl ?_
      refine v_aload_n (n := 33) xB_7 dX0_tells_32 rfl rfl ?_
      refine v_bipush (n := 35) xB_7 dX0_tells_33 ⟨by decide, by decide⟩ rfl ?_
      refine v_iload_n (n := 36) xB_7 dX0_tells_35 rfl rfl ?_
      refine v_call_v (n := 39) xB_7 dX0_tells_36 xO_7 iv_0_42 rfl (sh_66 _ _ _) rfl rfl rfl ?_
      refine k_begins (by omega) (by first | omega | (simp only [sA_same, sA_s, ud_s, Int.reduceEq, if_true, if_false, ite_true, ite_false, ↓reduceIte, and_true, true_and, eq_self, Int.add_zero, Int.reduceAdd]; omega) | (simp (disch := omega) only [sA_same, sA_ne, ud_eq, ud_ne, Int.add_zero, Int.reduceAdd]; omega)) (by first | omega | (simp only [sA_same, sA_s, ud_s, Int.reduceEq, if_true, if_false, ite_true, ite_false, ↓reduceIte, and_true, true_and, eq_self, Int.add_zero, Int.reduceAdd]; omega) | (simp (disch := omega) only [sA_same, sA_ne, ud_eq, ud_ne, Int.add_zero, Int.reduceAdd]; omega)) ?_
      (try simp (disch := omega) only [sA_same, sA_ne, sA_sA, sA_sr, sB_s, ud_eq, ud_ne, ud_ud, ud_sr, uB_s, Int.add_zero, Int.reduceAdd])
      refine v_if_eq_n (n := 42) xB_7 dX0_tells_39 (by decide) rfl (by decide) ?_
      refine v_aload_n (n := 43) xB_7 dX0_tells_42 rfl rfl ?_
      refine v_iconst (n := 44) xB_7 dX0_tells_43 ⟨by decide, by decide⟩ rfl ?_
      refine v_iload_n (n := 45) xB_7 dX0_tells_44 rfl rfl ?_
      refine v_iload_n (n := 46) xB_7 dX0_tells_45 rfl rfl ?_
      refine v_iconst (n := 47) xB_7 dX0_tells_46 ⟨by decide, by decide⟩ rfl ?_
      refine v_iadd (n := 48) xB_7 dX0_tells_47 (by first | omega | (simp only [sA_same, sA_s, ud_s, Int.reduceEq, if_true, if_false, ite_true, ite_false, ↓reduceIte, and_true, true_and, eq_self, Int.add_zero, Int.reduceAdd]; omega) | (simp (disch := omega) only [sA_same, sA_ne, ud_eq, ud_ne, Int.add_zero, Int.reduceAdd]; omega)) rfl ?_
      refine v_call_v (n := 51) xB_7 dX0_tells_48 xO_7 iv_0_39 rfl (sh_66 _ _ _) rfl rfl rfl ?_
      refine kt_D (by omega) (by first | omega | (simp only [sA_same, sA_s, ud_s, Int.reduceEq, if_true, if_false, ite_true, ite_false, ↓reduceIte, and_true, true_and, eq_self, Int.add_zero, Int.reduceAdd]; omega) | (simp (disch := omega) only [sA_same, sA_ne, ud_eq, ud_ne, Int.add_zero, Int.reduceAdd]; omega)) (by first | omega | (simp only [sA_same, sA_s, ud_s, Int.reduceEq, if_true, if_false, ite_true, ite_false, ↓reduceIte, and_true, true_and, eq_self, Int.add_zero, Int.reduceAdd]; omega) | (simp (disch := omega) only [sA_same, sA_ne, ud_eq, ud_ne, Int.add_zero, Int.reduceAdd]; omega)) (by first | omega | (simp only [sA_same, sA_s, ud_s, Int.reduceEq, if_true, if_false, ite_true, ite_false, ↓reduceIte, and_true, true_and, eq_self, Int.add_zero, Int.reduceAdd]; omega) | (simp (disch := omega) only [sA_same, sA_ne, ud_eq, ud_ne, Int.add_zero, Int.reduceAdd]; omega)) (by first | omega | (simp only [sA_same, sA_s, ud_s, Int.reduceEq, if_true, if_false, ite_true, ite_false, ↓reduceIte, and_true, true_and, eq_self, Int.add_zero, Int.reduceAdd]; omega) | (simp (disch := omega) only [sA_same, sA_ne, ud_eq, ud_ne, Int.add_zero, Int.reduceAdd]; omega)) ?_
      (try simp (disch := omega) only [sA_same, sA_ne, sA_sA, sA_sr, sB_s, ud_eq, ud_ne, ud_ud, ud_sr, uB_s, Int.add_zero, Int.reduceAdd])
      refine v_aload_n (n := 52) xB_7 dX0_tells_51 rfl rfl ?_
      refine v_aload_n (n := 53) xB_7 dX0_tells_52 rfl rfl ?_
      refine v_gf_i (n := 56) (kz := 3) xB_7 dX0_tells_53 xO_7 fl_0_27 fg_0_3 rfl (sh_66 _ _ _) rfl rfl ?_
      refine v_iconst (n := 57) xB_7 dX0_tells_56 ⟨by decide, by decide⟩ rfl ?_
      refine v_iload_n (n := 58) xB_7 dX0_tells_57 rfl rfl ?_
      refine v_iconst (n := 59) xB_7 dX0_tells_58 ⟨by decide, by decide⟩ rfl ?_
      refine v_iadd (n := 60) xB_7 dX0_tells_59 (by first | omega | (simp only [sA_same, sA_s, ud_s, Int.reduceEq, if_true, if_false, ite_true, ite_false, ↓reduceIte, and_true, true_and, eq_self, Int.add_zero, Int.reduceAdd]; omega) | (simp (disch := omega) only [sA_same, sA_ne, ud_eq, ud_ne, Int.add_zero, Int.reduceAdd]; omega)) rfl ?_
      refine v_call_v (n := 63) xB_7 dX0_tells_60 xO_7 iv_0_36 rfl (sh_66 _ _ _) rfl rfl rfl ?_
      refine k_prints (by omega) (by have q := rsL_n (12 :: pL (m 66 3)) (m 66 1 + 1); have q2 := fL_len (m 66 3); have q3 := pL_len (m 66 3); simp only [List.length_cons, List.length_append, List.length_nil] at q; simp (disch := omega) only [sA_ne, sA_same, ud_eq, ud_ne]; omega) (by first | omega | (simp only [sA_same, sA_s, ud_s, Int.reduceEq, if_true, if_false, ite_true, ite_false, ↓reduceIte, and_true, true_and, eq_self, Int.add_zero, Int.reduceAdd]; omega) | (simp (disch := omega) only [sA_same, sA_ne, ud_eq, ud_ne, Int.add_zero, Int.reduceAdd]; omega)) (by first | omega | (simp only [sA_same, sA_s, ud_s, Int.reduceEq, if_true, if_false, ite_true, ite_false, ↓reduceIte, and_true, true_and, eq_self, Int.add_zero, Int.reduceAdd]; omega) | (simp (disch := omega) only [sA_same, sA_ne, ud_eq, ud_ne, Int.add_zero, Int.reduceAdd]; omega)) (by first | omega | (simp only [sA_same, sA_s, ud_s, Int.reduceEq, if_true, if_false, ite_true, ite_false, ↓reduceIte, and_true, true_and, eq_self, Int.add_zero, Int.reduceAdd]; omega) | (simp (disch := omega) only [sA_same, sA_ne, ud_eq, ud_ne, Int.add_zero, Int.reduceAdd]; omega)) ?_
      (try simp (disch := omega) only [sA_same, sA_ne, sA_sA, sA_sr, sB_s, ud_eq, ud_ne, ud_ud, ud_sr, uB_s, Int.add_zero, Int.reduceAdd])
      refine v_iaddw (n := 64) xB_7 dX0_tells_63 rfl ?_
      refine v_goto (t := 68) xB_7 dX0_tells_64 (by decide) rfl ?_
      refine v_ireturn0 xB_7 dX0_tells_68 xK_7 ?_
      (try rw [hm])
      first | exact o1 | (rw [show tL 3 = (40 :: 12 :: pL 3) ++ pL 3 from rfl, rsL_app, ap_app] at o1; exact o1) | (rw [show tL 6 = (40 :: 12 :: pL 6) ++ pL 6 from rfl, rsL_app, ap_app] at o1; exact o1)
    refine ts_n ?_
    refine jm_go (t := 98) (by decide) rfl ?_
    exfalso; omega
