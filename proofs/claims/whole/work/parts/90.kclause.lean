/-! The class reads clauses. -/
set_option maxHeartbeats 1000000 in
theorem k_bound0 {d : Nat}  {m : PM} {dy : List (Nat × Nat)} {L : Nat} {Q : Option PV → PS → Prop} (hd : 2 ≤ d) (hT : (0 ≤ m 53 1 ∧ m 53 1 ≤ 100) ∧ (0 ≤ m 53 2 ∧ m 53 2 ≤ m 53 1)) (o1 : ((nmv (m 54) (m 53 1) (m 53 2)).1 < 0) → Q (some (.inl 0)) (setA m 53 (ud (m 53) 2 (nmv (m 54) (m 53 1) (m 53 2)).2), (none, (dy, L)))) (o2 : (0 ≤ (nmv (m 54) (m 53 1) (m 53 2)).1) → Q (some (.inl 1)) (setA m 53 (ud (ud (m 53) 2 (nmv (m 54) (m 53 1) (m 53 2)).2) 3 (mx1 (nmv (m 54) (m 53 1) (m 53 2)).1)), (none, (dy, L)))) : C d 44 [.inr (.inr 53), .inl 0] (m, (none, (dy, L))) Q := by
  refine C_go (k := 1) hd xL_44 (fun d hd => ?_)
  show V d 44 (0, ([some (.inr (.inr 53)), some (.inl 0), none], ([], (m, (none, (dy, L)))))) Q
  refine v_aload_n (n := 1) xB_44 dX5_bound_0 rfl rfl ?_
  refine v_call_v (n := 4) xB_44 dX5_bound_1 xO_44 iv_5_78 rfl (sh_53 _ _ _) rfl rfl rfl ?_
  refine k_number (by omega) hT ?_
  (try simp (disch := omega) only [sA_same, sA_ne, sA_sA, sA_sr, sB_s, ud_eq, ud_ne, ud_ud, ud_sr, uB_s, Int.add_zero, Int.reduceAdd])
  refine v_istore_n2 (n := 5) xB_44 dX5_bound_4 rfl rfl ?_
  refine v_iload_n (n := 6) xB_44 dX5_bound_5 rfl rfl ?_
  refine v_if_ge (t := 11) (n := 9) xB_44 dX5_bound_6 (by decide) rfl rfl (fun g1 => ?_) (fun g1 => ?_)
  · (try simp (disch := omega) only [sA_same, sA_ne, sA_sA, sA_sr, sB_s, ud_eq, ud_ne, ud_ud, ud_sr, uB_s, Int.add_zero, Int.reduceAdd] at g1)
    refine v_iload_n (n := 12) xB_44 dX5_bound_11 rfl rfl ?_
    refine v_if_ne_n (n := 15) xB_44 dX5_bound_12 (by decide) rfl (by decide) ?_
    refine v_aload_n (n := 16) xB_44 dX5_bound_15 rfl rfl ?_
    refine v_iload_n (n := 17) xB_44 dX5_bound_16 rfl rfl ?_
    refine v_iconst (n := 18) xB_44 dX5_bound_17 ⟨by decide, by decide⟩ rfl ?_
    refine v_max (n := 21) xB_44 dX5_bound_18 xO_44 sp_5_81 rfl rfl ?_
    refine v_pf_i (n := 24) (kz := 3) xB_44 dX5_bound_21 xO_44 fl_5_34 fg_5_3 (Or.inl fn_5_3) (sh_53 _ _ _) (by decide) rfl rfl ?_
    (try simp (disch := omega) only [sA_same, sA_ne, sA_sA, sA_sr, sB_s, ud_eq, ud_ne, ud_ud, ud_sr, uB_s, Int.add_zero, Int.reduceAdd])
    refine v_goto (t := 37) xB_44 dX5_bound_24 (by decide) rfl ?_
    refine v_iconst (n := 38) xB_44 dX5_bound_37 ⟨by decide, by decide⟩ rfl ?_
    refine v_ireturn1 xB_44 dX5_bound_38 xK_44 (by decide) ?_
    first | exact o1 (by omega) | exact o2 (by omega)
  · (try simp (disch := omega) only [sA_same, sA_ne, sA_sA, sA_sr, sB_s, ud_eq, ud_ne, ud_ud, ud_sr, uB_s, Int.add_zero, Int.reduceAdd] at g1)
    refine v_iconst (n := 10) xB_44 dX5_bound_9 ⟨by decide, by decide⟩ rfl ?_
    refine v_ireturn1 xB_44 dX5_bound_10 xK_44 (by decide) ?_
    first | exact o1 (by omega) | exact o2 (by omega)
set_option maxHeartbeats 1000000 in
theorem k_bound1 {d : Nat}  {m : PM} {dy : List (Nat × Nat)} {L : Nat} {Q : Option PV → PS → Prop} (hd : 2 ≤ d) (hT : (0 ≤ m 53 1 ∧ m 53 1 ≤ 100) ∧ (0 ≤ m 53 2 ∧ m 53 2 ≤ m 53 1)) (o1 : ((nmv (m 54) (m 53 1) (m 53 2)).1 < 0) → Q (some (.inl 0)) (setA m 53 (ud (m 53) 2 (nmv (m 54) (m 53 1) (m 53 2)).2), (none, (dy, L)))) (o2 : (0 ≤ (nmv (m 54) (m 53 1) (m 53 2)).1) → Q (some (.inl 1)) (setA m 53 (ud (ud (m 53) 2 (nmv (m 54) (m 53 1) (m 53 2)).2) 4 (mn24 (nmv (m 54) (m 53 1) (m 53 2)).1)), (none, (dy, L)))) : C d 44 [.inr (.inr 53), .inl 1] (m, (none, (dy, L))) Q := by
  refine C_go (k := 1) hd xL_44 (fun d hd => ?_)
  show V d 44 (0, ([some (.inr (.inr 53)), some (.inl 1), none], ([], (m, (none, (dy, L)))))) Q
  refine v_aload_n (n := 1) xB_44 dX5_bound_0 rfl rfl ?_
  refine v_call_v (n := 4) xB_44 dX5_bound_1 xO_44 iv_5_78 rfl (sh_53 _ _ _) rfl rfl rfl ?_
  refine k_number (by omega) hT ?_
  (try simp (disch := omega) only [sA_same, sA_ne, sA_sA, sA_sr, sB_s, ud_eq, ud_ne, ud_ud, ud_sr, uB_s, Int.add_zero, Int.reduceAdd])
  refine v_istore_n2 (n := 5) xB_44 dX5_bound_4 rfl rfl ?_
  refine v_iload_n (n := 6) xB_44 dX5_bound_5 rfl rfl ?_
  refine v_if_ge (t := 11) (n := 9) xB_44 dX5_bound_6 (by decide) rfl rfl (fun g1 => ?_) (fun g1 => ?_)
  · (try simp (disch := omega) only [sA_same, sA_ne, sA_sA, sA_sr, sB_s, ud_eq, ud_ne, ud_ud, ud_sr, uB_s, Int.add_zero, Int.reduceAdd] at g1)
    refine v_iload_n (n := 12) xB_44 dX5_bound_11 rfl rfl ?_
    refine v_if_ne_y (t := 27) xB_44 dX5_bound_12 (by decide) rfl (by decide) ?_
    refine v_aload_n (n := 28) xB_44 dX5_bound_27 rfl rfl ?_
    refine v_iload_n (n := 29) xB_44 dX5_bound_28 rfl rfl ?_
    refine v_bipush (n := 31) xB_44 dX5_bound_29 ⟨by decide, by decide⟩ rfl ?_
    refine v_min (n := 34) xB_44 dX5_bound_31 xO_44 sp_5_87 rfl rfl ?_
    refine v_pf_i (n := 37) (kz := 4) xB_44 dX5_bound_34 xO_44 fl_5_37 fg_5_4 (Or.inl fn_5_4) (sh_53 _ _ _) (by decide) rfl rfl ?_
    (try simp (disch := omega) only [sA_same, sA_ne, sA_sA, sA_sr, sB_s, ud_eq, ud_ne, ud_ud, ud_sr, uB_s, Int.add_zero, Int.reduceAdd])
    refine v_iconst (n := 38) xB_44 dX5_bound_37 ⟨by decide, by decide⟩ rfl ?_
    refine v_ireturn1 xB_44 dX5_bound_38 xK_44 (by decide) ?_
    first | exact o1 (by omega) | exact o2 (by omega)
  · (try simp (disch := omega) only [sA_same, sA_ne, sA_sA, sA_sr, sB_s, ud_eq, ud_ne, ud_ud, ud_sr, uB_s, Int.add_zero, Int.reduceAdd] at g1)
    refine v_iconst (n := 10) xB_44 dX5_bound_9 ⟨by decide, by decide⟩ rfl ?_
    refine v_ireturn1 xB_44 dX5_bound_10 xK_44 (by decide) ?_
    first | exact o1 (by omega) | exact o2 (by omega)
def KF (m0 m : PM) (a : Int) : Prop := (∀ x : Int, x < 53 ∨ 58 < x → m x = m0 x) ∧ m 54 = m0 54 ∧ m 53 1 = m0 53 1 ∧ m 53 2 = a
def KG (m0 m : PM) (a : Int) (CL : CLs) : Prop := KF m0 m a ∧ m 53 3 = frW CL ∧ m 53 4 = tlW CL ∧ (m 55 1 = (stW CL 2).length ∧ LA (m 56) 0 (stW CL 2)) ∧ (m 57 1 = (stW CL 3).length ∧ LA (m 58) 0 (stW CL 3)) ∧ ((stW CL 2).length : Int) ≤ a ∧ ((stW CL 3).length : Int) ≤ a
theorem KG_b {m0 m m2 : PM} {a a' w z : Int} {CL : CLs} (h : KG m0 m a CL) (ha : a ≤ a') (hw : w = 0 ∨ w = 1) (e : m2 = setA m 53 (ud (ud (m 53) 2 a') (if w = 0 then 3 else 4) (if w = 0 then mx1 z else mn24 z))) : KG m0 m2 a' (CL ++ [(w, (z, []))]) := by
  subst e
  obtain ⟨⟨h1, h2, h3, h4⟩, h5, h6, h7, h8, h9, h10⟩ := h
  unfold KG KF
  rw [frW_snoc, tlW_snoc, stW_snoc, stW_snoc]
  dsimp only
  rw [if_neg (show ¬ w = 2 by omega), if_neg (show ¬ w = 3 by omega)]
  rcases hw with rfl | rfl
  · simp (disch := omega) only [sA_ne, sA_same, ud_eq, ud_ne, if_true, if_false, Int.reduceEq, ↓reduceIte]
    exact ⟨⟨fun x p => by rw [sA_ne (by omega)]; exact h1 x p, h2, h3, trivial⟩, trivial, h6, h7, h8, by omega, by omega⟩
  · simp (disch := omega) only [sA_ne, sA_same, ud_eq, ud_ne, if_true, if_false, Int.reduceEq, ↓reduceIte]
    exact ⟨⟨fun x p => by rw [sA_ne (by omega)]; exact h1 x p, h2, h3, trivial⟩, h5, trivial, h7, h8, by omega, by omega⟩
theorem jn_e {A S : List Int} (h : A = []) : jn A S = S := by unfold jn; rw [if_pos h]
theorem jn_n {A S : List Int} (h : A ≠ []) : jn A S = A ++ S ++ [-3] := by unfold jn; rw [if_neg h]
theorem KG_e55 {m0 m m2 : PM} {a a1 a' : Int} {CL : CLs} {S J : List Int} (h : KG m0 m a CL) (h1 : a ≤ a1) (hla : a1 ≤ a') (hl : (J.length : Int) ≤ a') (hJ : jn (stW CL 2) S = J) (eo : ∀ x : Int, x ≠ 53 → x ≠ 55 → x ≠ 56 → m2 x = m x) (e53 : ∀ k : Int, k ≠ 2 → k ≠ 7 → m2 53 k = m 53 k) (e2 : m2 53 2 = a') (ez : m2 55 1 = J.length) (eL : LA (m2 56) 0 J) : KG m0 m2 a' (CL ++ [(2, (0, S))]) := by
  obtain ⟨⟨h1, h2, h3, h4⟩, h5, h6, h7, h8, h9, h10⟩ := h
  unfold KG KF
  rw [frW_snoc, tlW_snoc, stW_snoc, stW_snoc]
  dsimp only
  rw [if_neg (by decide), if_neg (by decide)]
  rw [if_pos rfl, if_neg (by decide), hJ]
  refine ⟨⟨fun x p => (eo x (by omega) (by omega) (by omega)).trans (h1 x p), (eo 54 (by omega) (by omega) (by omega)).trans h2, (e53 1 (by omega) (by omega)).trans h3, e2⟩, (e53 3 (by omega) (by omega)).trans h5, (e53 4 (by omega) (by omega)).trans h6, ⟨ez, eL⟩, ⟨by rw [eo 57 (by omega) (by omega) (by omega)]; exact h8.1, by rw [eo 58 (by omega) (by omega) (by omega)]; exact h8.2⟩, hl, by omega⟩
theorem KG_e57 {m0 m m2 : PM} {a a1 a' : Int} {CL : CLs} {S J : List Int} (h : KG m0 m a CL) (h1 : a ≤ a1) (hla : a1 ≤ a') (hl : (J.length : Int) ≤ a') (hJ : jn (stW CL 3) S = J) (eo : ∀ x : Int, x ≠ 53 → x ≠ 57 → x ≠ 58 → m2 x = m x) (e53 : ∀ k : Int, k ≠ 2 → k ≠ 7 → m2 53 k = m 53 k) (e2 : m2 53 2 = a') (ez : m2 57 1 = J.length) (eL : LA (m2 58) 0 J) : KG m0 m2 a' (CL ++ [(3, (0, S))]) := by
  obtain ⟨⟨h1, h2, h3, h4⟩, h5, h6, h7, h8, h9, h10⟩ := h
  unfold KG KF
  rw [frW_snoc, tlW_snoc, stW_snoc, stW_snoc]
  dsimp only
  rw [if_neg (by decide), if_neg (by decide)]
  rw [if_neg (by decide), if_pos rfl, hJ]
  refine ⟨⟨fun x p => (eo x (by omega) (by omega) (by omega)).trans (h1 x p), (eo 54 (by omega) (by omega) (by omega)).trans h2, (e53 1 (by omega) (by omega)).trans h3, e2⟩, (e53 3 (by omega) (by omega)).trans h5, (e53 4 (by omega) (by omega)).trans h6, ⟨by rw [eo 55 (by omega) (by omega) (by omega)]; exact h7.1, by rw [eo 56 (by omega) (by omega) (by omega)]; exact h7.2⟩, ⟨ez, eL⟩, by omega, hl⟩
set_option maxRecDepth 4000 in
set_option maxHeartbeats 2000000 in
theorem k_clause {d : Nat} {m0 m : PM} {a : Int} {CL : CLs} {dy : List (Nat × Nat)} {L : Nat} {Q : Option PV → PS → Prop} (hd : 45 ≤ d) (hK : KT m) (hG : KG m0 m a CL) (hn : 0 ≤ m 53 1 ∧ m 53 1 ≤ 100) (ha : 0 ≤ m 53 2 ∧ m 53 2 ≤ m 53 1) (ht : ∀ i, 0 ≤ i → i < m 53 1 → 0 ≤ m 54 i ∧ m 54 i ≤ 127) (o1 : (clF (m 54) (m 53 1) (m 53 2)).1 = true → ∀ m' : PM, KG m0 m' (clF (m 54) (m 53 1) (m 53 2)).2.1 (CL ++ [(clF (m 54) (m 53 1) (m 53 2)).2.2]) → Q (some (.inl 1)) (m', (none, (dy, L)))) (o2 : (clF (m 54) (m 53 1) (m 53 2)).1 = false → ∀ m' : PM, KF m0 m' (clF (m 54) (m 53 1) (m 53 2)).2.1 → Q (some (.inl 0)) (m', (none, (dy, L)))) : C d 43 [.inr (.inr 53)] (m, (none, (dy, L))) Q := by
  refine C_go (k := 44) hd xL_43 (fun d hd => ?_)
  show V d 43 (0, ([some (.inr (.inr 53)), none, none], ([], (m, (none, (dy, L)))))) Q
  have hG0 := hG
  obtain ⟨⟨f1, f2, f3, f4⟩, f5, f6, f7, f8, f9, f10⟩ := hG0
  obtain ⟨w1, w2, w3, w4, w5⟩ := wdF_in (m 54) (n := m 53 1) (a := m 53 2) ha.2
  obtain ⟨i1, i2, i3⟩ := hdF_in (m 54) (n := m 53 1) (a := m 53 2) ha.2
  have hx : nxt (m 54) (m 53 1) (wdF (m 54) (m 53 1) (m 53 2)).2 = 32 → (wdF (m 54) (m 53 1) (m 53 2)).2 < m 53 1 := fun h => nxt_in h (by omega)
  have hKF : ∀ z : Int, KF m0 (setA m 53 (ud (m 53) 2 z)) z := fun z => by
    unfold KF
    simp (disch := omega) only [sA_ne, sA_same, ud_eq, ud_ne]
    exact ⟨fun x p => by rw [sA_ne (by omega)]; exact f1 x p, f2, f3, trivial⟩
  rcases (by omega : (wdF (m 54) (m 53 1) (m 53 2)).1 < 0 ∨ (0 ≤ (wdF (m 54) (m 53 1) (m 53 2)).1 ∧ ¬ nxt (m 54) (m 53 1) (wdF (m 54) (m 53 1) (m 53 2)).2 = 32) ∨ ((wdF (m 54) (m 53 1) (m 53 2)).1 = 0 ∧ nxt (m 54) (m 53 1) (wdF (m 54) (m 53 1) (m 53 2)).2 = 32) ∨ ((wdF (m 54) (m 53 1) (m 53 2)).1 = 1 ∧ nxt (m 54) (m 53 1) (wdF (m 54) (m 53 1) (m 53 2)).2 = 32) ∨ ((wdF (m 54) (m 53 1) (m 53 2)).1 = 2 ∧ nxt (m 54) (m 53 1) (wdF (m 54) (m 53 1) (m 53 2)).2 = 32) ∨ ((wdF (m 54) (m 53 1) (m 53 2)).1 = 3 ∧ nxt (m 54) (m 53 1) (wdF (m 54) (m 53 1) (m 53 2)).2 = 32)) with hw | hw | hw | hw | hw | hw
  · have eh : hdF (m 54) (m 53 1) (m 53 2) = (false, ((wdF (m 54) (m 53 1) (m 53 2)).2, 0)) := by unfold hdF; rw [if_pos hw]
    have ec : clF (m 54) (m 53 1) (m 53 2) = (false, ((wdF (m 54) (m 53 1) (m 53 2)).2, (0, (0, [])))) := by unfold clF; rw [eh, if_pos rfl]
    rw [ec] at o2
    refine v_aload_n (n := 1) xB_43 dX5_clause_0 rfl rfl ?_
    refine v_call_v (n := 4) xB_43 dX5_clause_1 xO_43 iv_5_64 rfl (sh_53 _ _ _) rfl rfl rfl ?_
    refine k_word (by omega) hK ⟨hn, ha⟩ ?_
    (try simp (disch := omega) only [sA_same, sA_ne, sA_sA, sA_sr, sB_s, ud_eq, ud_ne, ud_ud, ud_sr, uB_s, Int.add_zero, Int.reduceAdd])
    refine v_istore_n1 (n := 5) xB_43 dX5_clause_4 rfl rfl ?_
    refine v_iload_n (n := 6) xB_43 dX5_clause_5 rfl rfl ?_
    refine v_if_lt_y (t := 18) xB_43 dX5_clause_6 (by decide) rfl (by first | omega | (simp only [sA_same, sA_s, ud_s, Int.reduceEq, if_true, if_false, ite_true, ite_false, ↓reduceIte, and_true, true_and, eq_self, Int.add_zero, Int.reduceAdd]; omega) | (simp (disch := omega) only [sA_same, sA_ne, ud_eq, ud_ne, Int.add_zero, Int.reduceAdd]; omega)) ?_
    refine v_iconst (n := 19) xB_43 dX5_clause_18 ⟨by decide, by decide⟩ rfl ?_
    refine v_ireturn1 xB_43 dX5_clause_19 xK_43 (by decide) ?_
    exact o2 rfl _ (hKF _)
  · have eh : hdF (m 54) (m 53 1) (m 53 2) = (false, ((wdF (m 54) (m 53 1) (m 53 2)).2, 0)) := by unfold hdF; rw [if_neg (by omega), if_neg hw.2]
    have ec : clF (m 54) (m 53 1) (m 53 2) = (false, ((wdF (m 54) (m 53 1) (m 53 2)).2, (0, (0, [])))) := by unfold clF; rw [eh, if_pos rfl]
    rw [ec] at o2
    refine v_aload_n (n := 1) xB_43 dX5_clause_0 rfl rfl ?_
    refine v_call_v (n := 4) xB_43 dX5_clause_1 xO_43 iv_5_64 rfl (sh_53 _ _ _) rfl rfl rfl ?_
    refine k_word (by omega) hK ⟨hn, ha⟩ ?_
    (try simp (disch := omega) only [sA_same, sA_ne, sA_sA, sA_sr, sB_s, ud_eq, ud_ne, ud_ud, ud_sr, uB_s, Int.add_zero, Int.reduceAdd])
    refine v_istore_n1 (n := 5) xB_43 dX5_clause_4 rfl rfl ?_
    refine v_iload_n (n := 6) xB_43 dX5_clause_5 rfl rfl ?_
    refine v_if_lt_n (n := 9) xB_43 dX5_clause_6 (by decide) rfl (by first | omega | (simp only [sA_same, sA_s, ud_s, Int.reduceEq, if_true, if_false, ite_true, ite_false, ↓reduceIte, and_true, true_and, eq_self, Int.add_zero, Int.reduceAdd]; omega) | (simp (disch := omega) only [sA_same, sA_ne, ud_eq, ud_ne, Int.add_zero, Int.reduceAdd]; omega)) ?_
    refine v_aload_n (n := 10) xB_43 dX5_clause_9 rfl rfl ?_
    refine v_call_v (n := 13) xB_43 dX5_clause_10 xO_43 iv_5_60 rfl (sh_53 _ _ _) rfl rfl rfl ?_
    refine k_sign (by omega) (by simp (disch := omega) only [sA_same, sA_ne, sA_sA, sA_sr, sB_s, ud_eq, ud_ne, ud_ud, ud_sr, uB_s, Int.add_zero, Int.reduceAdd]; omega) ?_
    (try simp (disch := omega) only [sA_same, sA_ne, sA_sA, sA_sr, sB_s, ud_eq, ud_ne, ud_ud, ud_sr, uB_s, Int.add_zero, Int.reduceAdd])
    refine v_bipush (n := 15) xB_43 dX5_clause_13 ⟨by decide, by decide⟩ rfl ?_
    refine v_ic_eq_n (n := 18) xB_43 dX5_clause_15 (by decide) rfl (by first | omega | (simp only [sA_same, sA_s, ud_s, Int.reduceEq, if_true, if_false, ite_true, ite_false, ↓reduceIte, and_true, true_and, eq_self, Int.add_zero, Int.reduceAdd]; omega) | (simp (disch := omega) only [sA_same, sA_ne, ud_eq, ud_ne, Int.add_zero, Int.reduceAdd]; omega)) ?_
    refine v_iconst (n := 19) xB_43 dX5_clause_18 ⟨by decide, by decide⟩ rfl ?_
    refine v_ireturn1 xB_43 dX5_clause_19 xK_43 (by decide) ?_
    exact o2 rfl _ (hKF _)
  · have eh : hdF (m 54) (m 53 1) (m 53 2) = (true, ((wdF (m 54) (m 53 1) (m 53 2)).2 + 1, 0)) := by unfold hdF; rw [if_neg (by omega), if_pos hw.2, hw.1]
    have ec : clF (m 54) (m 53 1) (m 53 2) = if (nmv (m 54) (m 53 1) ((wdF (m 54) (m 53 1) (m 53 2)).2 + 1)).1 < 0 then (false, ((wdF (m 54) (m 53 1) (m 53 2)).2 + 1, (0, (0, [])))) else (true, ((nmv (m 54) (m 53 1) ((wdF (m 54) (m 53 1) (m 53 2)).2 + 1)).2, (0, ((nmv (m 54) (m 53 1) ((wdF (m 54) (m 53 1) (m 53 2)).2 + 1)).1, [])))) := by unfold clF; rw [eh, if_neg (show ¬ true = false by decide), if_pos (show (0 : Int) < 2 by decide)]
    rw [ec] at o1 o2
    have hlt := hx hw.2
    have nm := nmv_in (m 54) (n := m 53 1) (a := (wdF (m 54) (m 53 1) (m 53 2)).2 + 1) (by omega)
    refine v_aload_n (n := 1) xB_43 dX5_clause_0 rfl rfl ?_
    refine v_call_v (n := 4) xB_43 dX5_clause_1 xO_43 iv_5_64 rfl (sh_53 _ _ _) rfl rfl rfl ?_
    refine k_word (by omega) hK ⟨hn, ha⟩ ?_
    (try simp (disch := omega) only [sA_same, sA_ne, sA_sA, sA_sr, sB_s, ud_eq, ud_ne, ud_ud, ud_sr, uB_s, Int.add_zero, Int.reduceAdd])
    refine v_istore_n1 (n := 5) xB_43 dX5_clause_4 rfl rfl ?_
    refine v_iload_n (n := 6) xB_43 dX5_clause_5 rfl rfl ?_
    refine v_if_lt_n (n := 9) xB_43 dX5_clause_6 (by decide) rfl (by first | omega | (simp only [sA_same, sA_s, ud_s, Int.reduceEq, if_true, if_false, ite_true, ite_false, ↓reduceIte, and_true, true_and, eq_self, Int.add_zero, Int.reduceAdd]; omega) | (simp (disch := omega) only [sA_same, sA_ne, ud_eq, ud_ne, Int.add_zero, Int.reduceAdd]; omega)) ?_
    refine v_aload_n (n := 10) xB_43 dX5_clause_9 rfl rfl ?_
    refine v_call_v (n := 13) xB_43 dX5_clause_10 xO_43 iv_5_60 rfl (sh_53 _ _ _) rfl rfl rfl ?_
    refine k_sign (by omega) (by simp (disch := omega) only [sA_same, sA_ne, sA_sA, sA_sr, sB_s, ud_eq, ud_ne, ud_ud, ud_sr, uB_s, Int.add_zero, Int.reduceAdd]; omega) ?_
    (try simp (disch := omega) only [sA_same, sA_ne, sA_sA, sA_sr, sB_s, ud_eq, ud_ne, ud_ud, ud_sr, uB_s, Int.add_zero, Int.reduceAdd])
    refine v_bipush (n := 15) xB_43 dX5_clause_13 ⟨by decide, by decide⟩ rfl ?_
    refine v_ic_eq_y (t := 20) xB_43 dX5_clause_15 (by decide) rfl (by first | omega | (simp only [sA_same, sA_s, ud_s, Int.reduceEq, if_true, if_false, ite_true, ite_false, ↓reduceIte, and_true, true_and, eq_self, Int.add_zero, Int.reduceAdd]; omega) | (simp (disch := omega) only [sA_same, sA_ne, ud_eq, ud_ne, Int.add_zero, Int.reduceAdd]; omega)) ?_
    refine v_aload_n (n := 21) xB_43 dX5_clause_20 rfl rfl ?_
    refine v_dup (n := 22) xB_43 dX5_clause_21 rfl rfl ?_
    refine v_gf_i (n := 25) (kz := 2) xB_43 dX5_clause_22 xO_43 fl_5_28 fg_5_2 rfl (sh_53 _ _ _) rfl rfl ?_
    refine v_iconst (n := 26) xB_43 dX5_clause_25 ⟨by decide, by decide⟩ rfl ?_
    refine v_iadd (n := 27) xB_43 dX5_clause_26 (by first | omega | (simp only [sA_same, sA_s, ud_s, Int.reduceEq, if_true, if_false, ite_true, ite_false, ↓reduceIte, and_true, true_and, eq_self, Int.add_zero, Int.reduceAdd]; omega) | (simp (disch := omega) only [sA_same, sA_ne, ud_eq, ud_ne, Int.add_zero, Int.reduceAdd]; omega)) rfl ?_
    refine v_pf_i (n := 30) (kz := 2) xB_43 dX5_clause_27 xO_43 fl_5_28 fg_5_2 (Or.inl fn_5_2) (sh_53 _ _ _) (by decide) rfl rfl ?_
    (try simp (disch := omega) only [sA_same, sA_ne, sA_sA, sA_sr, sB_s, ud_eq, ud_ne, ud_ud, ud_sr, uB_s, Int.add_zero, Int.reduceAdd])
    refine v_iload_n (n := 31) xB_43 dX5_clause_30 rfl rfl ?_
    refine v_if_eq_y (t := 39) xB_43 dX5_clause_31 (by decide) rfl (by first | omega | (simp only [sA_same, sA_s, ud_s, Int.reduceEq, if_true, if_false, ite_true, ite_false, ↓reduceIte, and_true, true_and, eq_self, Int.add_zero, Int.reduceAdd]; omega) | (simp (disch := omega) only [sA_same, sA_ne, ud_eq, ud_ne, Int.add_zero, Int.reduceAdd]; omega)) ?_
    refine v_aload_n (n := 40) xB_43 dX5_clause_39 rfl rfl ?_
    refine v_iload_n (n := 41) xB_43 dX5_clause_40 rfl rfl ?_
    rw [hw.1]
    refine v_call_v (n := 44) xB_43 dX5_clause_41 xO_43 iv_5_67 rfl (sh_53 _ _ _) rfl rfl rfl ?_
    refine k_bound0 (by omega) (by simp (disch := omega) only [sA_same, sA_ne, sA_sA, sA_sr, sB_s, ud_eq, ud_ne, ud_ud, ud_sr, uB_s, Int.add_zero, Int.reduceAdd]; omega) (fun g1 => ?_) (fun g2 => ?_)
    · (try simp (disch := omega) only [sA_same, sA_ne, sA_sA, sA_sr, sB_s, ud_eq, ud_ne, ud_ud, ud_sr, uB_s, Int.add_zero, Int.reduceAdd] at g1)
      rw [if_pos g1] at o2
      (try simp (disch := omega) only [sA_same, sA_ne, sA_sA, sA_sr, sB_s, ud_eq, ud_ne, ud_ud, ud_sr, uB_s, Int.add_zero, Int.reduceAdd])
      (try simp (disch := omega) only [sA_same, sA_ne, sA_sA, sA_sr, sB_s, ud_eq, ud_ne, ud_ud, ud_sr, uB_s, Int.add_zero, Int.reduceAdd] at g1)
      refine v_ireturn1 xB_43 dX5_clause_44 xK_43 (by decide) ?_
      first
      | (rw [show (nmv (m 54) (m 53 1) ((wdF (m 54) (m 53 1) (m 53 2)).2 + 1)).2 = (wdF (m 54) (m 53 1) (m 53 2)).2 + 1 by omega]; exact o2 rfl _ (hKF _))
      | exact o1 rfl _ (KG_b (a' := (nmv (m 54) (m 53 1) ((wdF (m 54) (m 53 1) (m 53 2)).2 + 1)).2) (w := 0) (z := (nmv (m 54) (m 53 1) ((wdF (m 54) (m 53 1) (m 53 2)).2 + 1)).1) hG (by omega) (by omega) rfl)
      | (exfalso; omega)
    · (try simp (disch := omega) only [sA_same, sA_ne, sA_sA, sA_sr, sB_s, ud_eq, ud_ne, ud_ud, ud_sr, uB_s, Int.add_zero, Int.reduceAdd] at g2)
      rw [if_neg (by omega)] at o1
      (try simp (disch := omega) only [sA_same, sA_ne, sA_sA, sA_sr, sB_s, ud_eq, ud_ne, ud_ud, ud_sr, uB_s, Int.add_zero, Int.reduceAdd])
      (try simp (disch := omega) only [sA_same, sA_ne, sA_sA, sA_sr, sB_s, ud_eq, ud_ne, ud_ud, ud_sr, uB_s, Int.add_zero, Int.reduceAdd] at g2)
      refine v_ireturn1 xB_43 dX5_clause_44 xK_43 (by decide) ?_
      first
      | (rw [show (nmv (m 54) (m 53 1) ((wdF (m 54) (m 53 1) (m 53 2)).2 + 1)).2 = (wdF (m 54) (m 53 1) (m 53 2)).2 + 1 by omega]; exact o2 rfl _ (hKF _))
      | exact o1 rfl _ (KG_b (a' := (nmv (m 54) (m 53 1) ((wdF (m 54) (m 53 1) (m 53 2)).2 + 1)).2) (w := 0) (z := (nmv (m 54) (m 53 1) ((wdF (m 54) (m 53 1) (m 53 2)).2 + 1)).1) hG (by omega) (by omega) rfl)
      | (exfalso; omega)
  · have eh : hdF (m 54) (m 53 1) (m 53 2) = (true, ((wdF (m 54) (m 53 1) (m 53 2)).2 + 1, 1)) := by unfold hdF; rw [if_neg (by omega), if_pos hw.2, hw.1]
    have ec : clF (m 54) (m 53 1) (m 53 2) = if (nmv (m 54) (m 53 1) ((wdF (m 54) (m 53 1) (m 53 2)).2 + 1)).1 < 0 then (false, ((wdF (m 54) (m 53 1) (m 53 2)).2 + 1, (0, (0, [])))) else (true, ((nmv (m 54) (m 53 1) ((wdF (m 54) (m 53 1) (m 53 2)).2 + 1)).2, (1, ((nmv (m 54) (m 53 1) ((wdF (m 54) (m 53 1) (m 53 2)).2 + 1)).1, [])))) := by unfold clF; rw [eh, if_neg (show ¬ true = false by decide), if_pos (show (1 : Int) < 2 by decide)]
    rw [ec] at o1 o2
    have hlt := hx hw.2
    have nm := nmv_in (m 54) (n := m 53 1) (a := (wdF (m 54) (m 53 1) (m 53 2)).2 + 1) (by omega)
    refine v_aload_n (n := 1) xB_43 dX5_clause_0 rfl rfl ?_
    refine v_call_v (n := 4) xB_43 dX5_clause_1 xO_43 iv_5_64 rfl (sh_53 _ _ _) rfl rfl rfl ?_
    refine k_word (by omega) hK ⟨hn, ha⟩ ?_
    (try simp (disch := omega) only [sA_same, sA_ne, sA_sA, sA_sr, sB_s, ud_eq, ud_ne, ud_ud, ud_sr, uB_s, Int.add_zero, Int.reduceAdd])
    refine v_istore_n1 (n := 5) xB_43 dX5_clause_4 rfl rfl ?_
    refine v_iload_n (n := 6) xB_43 dX5_clause_5 rfl rfl ?_
    refine v_if_lt_n (n := 9) xB_43 dX5_clause_6 (by decide) rfl (by first | omega | (simp only [sA_same, sA_s, ud_s, Int.reduceEq, if_true, if_false, ite_true, ite_false, ↓reduceIte, and_true, true_and, eq_self, Int.add_zero, Int.reduceAdd]; omega) | (simp (disch := omega) only [sA_same, sA_ne, ud_eq, ud_ne, Int.add_zero, Int.reduceAdd]; omega)) ?_
    refine v_aload_n (n := 10) xB_43 dX5_clause_9 rfl rfl ?_
    refine v_call_v (n := 13) xB_43 dX5_clause_10 xO_43 iv_5_60 rfl (sh_53 _ _ _) rfl rfl rfl ?_
    refine k_sign (by omega) (by simp (disch := omega) only [sA_same, sA_ne, sA_sA, sA_sr, sB_s, ud_eq, ud_ne, ud_ud, ud_sr, uB_s, Int.add_zero, Int.reduceAdd]; omega) ?_
    (try simp (disch := omega) only [sA_same, sA_ne, sA_sA, sA_sr, sB_s, ud_eq, ud_ne, ud_ud, ud_sr, uB_s, Int.add_zero, Int.reduceAdd])
    refine v_bipush (n := 15) xB_43 dX5_clause_13 ⟨by decide, by decide⟩ rfl ?_
    refine v_ic_eq_y (t := 20) xB_43 dX5_clause_15 (by decide) rfl (by first | omega | (simp only [sA_same, sA_s, ud_s, Int.reduceEq, if_true, if_false, ite_true, ite_false, ↓reduceIte, and_true, true_and, eq_self, Int.add_zero, Int.reduceAdd]; omega) | (simp (disch := omega) only [sA_same, sA_ne, ud_eq, ud_ne, Int.add_zero, Int.reduceAdd]; omega)) ?_
    refine v_aload_n (n := 21) xB_43 dX5_clause_20 rfl rfl ?_
    refine v_dup (n := 22) xB_43 dX5_clause_21 rfl rfl ?_
    refine v_gf_i (n := 25) (kz := 2) xB_43 dX5_clause_22 xO_43 fl_5_28 fg_5_2 rfl (sh_53 _ _ _) rfl rfl ?_
    refine v_iconst (n := 26) xB_43 dX5_clause_25 ⟨by decide, by decide⟩ rfl ?_
    refine v_iadd (n := 27) xB_43 dX5_clause_26 (by first | omega | (simp only [sA_same, sA_s, ud_s, Int.reduceEq, if_true, if_false, ite_true, ite_false, ↓reduceIte, and_true, true_and, eq_self, Int.add_zero, Int.reduceAdd]; omega) | (simp (disch := omega) only [sA_same, sA_ne, ud_eq, ud_ne, Int.add_zero, Int.reduceAdd]; omega)) rfl ?_
    refine v_pf_i (n := 30) (kz := 2) xB_43 dX5_clause_27 xO_43 fl_5_28 fg_5_2 (Or.inl fn_5_2) (sh_53 _ _ _) (by decide) rfl rfl ?_
    (try simp (disch := omega) only [sA_same, sA_ne, sA_sA, sA_sr, sB_s, ud_eq, ud_ne, ud_ud, ud_sr, uB_s, Int.add_zero, Int.reduceAdd])
    refine v_iload_n (n := 31) xB_43 dX5_clause_30 rfl rfl ?_
    refine v_if_eq_n (n := 34) xB_43 dX5_clause_31 (by decide) rfl (by first | omega | (simp only [sA_same, sA_s, ud_s, Int.reduceEq, if_true, if_false, ite_true, ite_false, ↓reduceIte, and_true, true_and, eq_self, Int.add_zero, Int.reduceAdd]; omega) | (simp (disch := omega) only [sA_same, sA_ne, ud_eq, ud_ne, Int.add_zero, Int.reduceAdd]; omega)) ?_
    refine v_iload_n (n := 35) xB_43 dX5_clause_34 rfl rfl ?_
    refine v_iconst (n := 36) xB_43 dX5_clause_35 ⟨by decide, by decide⟩ rfl ?_
    refine v_ic_ne_n (n := 39) xB_43 dX5_clause_36 (by decide) rfl (by first | omega | (simp only [sA_same, sA_s, ud_s, Int.reduceEq, if_true, if_false, ite_true, ite_false, ↓reduceIte, and_true, true_and, eq_self, Int.add_zero, Int.reduceAdd]; omega) | (simp (disch := omega) only [sA_same, sA_ne, ud_eq, ud_ne, Int.add_zero, Int.reduceAdd]; omega)) ?_
    refine v_aload_n (n := 40) xB_43 dX5_clause_39 rfl rfl ?_
    refine v_iload_n (n := 41) xB_43 dX5_clause_40 rfl rfl ?_
    rw [hw.1]
    refine v_call_v (n := 44) xB_43 dX5_clause_41 xO_43 iv_5_67 rfl (sh_53 _ _ _) rfl rfl rfl ?_
    refine k_bound1 (by omega) (by simp (disch := omega) only [sA_same, sA_ne, sA_sA, sA_sr, sB_s, ud_eq, ud_ne, ud_ud, ud_sr, uB_s, Int.add_zero, Int.reduceAdd]; omega) (fun g1 => ?_) (fun g2 => ?_)
    · (try simp (disch := omega) only [sA_same, sA_ne, sA_sA, sA_sr, sB_s, ud_eq, ud_ne, ud_ud, ud_sr, uB_s, Int.add_zero, Int.reduceAdd] at g1)
      rw [if_pos g1] at o2
      (try simp (disch := omega) only [sA_same, sA_ne, sA_sA, sA_sr, sB_s, ud_eq, ud_ne, ud_ud, ud_sr, uB_s, Int.add_zero, Int.reduceAdd])
      (try simp (disch := omega) only [sA_same, sA_ne, sA_sA, sA_sr, sB_s, ud_eq, ud_ne, ud_ud, ud_sr, uB_s, Int.add_zero, Int.reduceAdd] at g1)
      refine v_ireturn1 xB_43 dX5_clause_44 xK_43 (by decide) ?_
      first
      | (rw [show (nmv (m 54) (m 53 1) ((wdF (m 54) (m 53 1) (m 53 2)).2 + 1)).2 = (wdF (m 54) (m 53 1) (m 53 2)).2 + 1 by omega]; exact o2 rfl _ (hKF _))
      | exact o1 rfl _ (KG_b (a' := (nmv (m 54) (m 53 1) ((wdF (m 54) (m 53 1) (m 53 2)).2 + 1)).2) (w := 1) (z := (nmv (m 54) (m 53 1) ((wdF (m 54) (m 53 1) (m 53 2)).2 + 1)).1) hG (by omega) (by omega) rfl)
      | (exfalso; omega)
    · (try simp (disch := omega) only [sA_same, sA_ne, sA_sA, sA_sr, sB_s, ud_eq, ud_ne, ud_ud, ud_sr, uB_s, Int.add_zero, Int.reduceAdd] at g2)
      rw [if_neg (by omega)] at o1
      (try simp (disch := omega) only [sA_same, sA_ne, sA_sA, sA_sr, sB_s, ud_eq, ud_ne, ud_ud, ud_sr, uB_s, Int.add_zero, Int.reduceAdd])
      (try simp (disch := omega) only [sA_same, sA_ne, sA_sA, sA_sr, sB_s, ud_eq, ud_ne, ud_ud, ud_sr, uB_s, Int.add_zero, Int.reduceAdd] at g2)
      refine v_ireturn1 xB_43 dX5_clause_44 xK_43 (by decide) ?_
      first
      | (rw [show (nmv (m 54) (m 53 1) ((wdF (m 54) (m 53 1) (m 53 2)).2 + 1)).2 = (wdF (m 54) (m 53 1) (m 53 2)).2 + 1 by omega]; exact o2 rfl _ (hKF _))
      | exact o1 rfl _ (KG_b (a' := (nmv (m 54) (m 53 1) ((wdF (m 54) (m 53 1) (m 53 2)).2 + 1)).2) (w := 1) (z := (nmv (m 54) (m 53 1) ((wdF (m 54) (m 53 1) (m 53 2)).2 + 1)).1) hG (by omega) (by omega) rfl)
      | (exfalso; omega)
  · have eh : hdF (m 54) (m 53 1) (m 53 2) = (true, ((wdF (m 54) (m 53 1) (m 53 2)).2 + 1, 2)) := by unfold hdF; rw [if_neg (by omega), if_pos hw.2, hw.1]
    have ec : clF (m 54) (m 53 1) (m 53 2) = ((EF (m 54) (m 53 1) ((wdF (m 54) (m 53 1) (m 53 2)).2 + 1)).1, ((EF (m 54) (m 53 1) ((wdF (m 54) (m 53 1) (m 53 2)).2 + 1)).2.1, (2, (0, (EF (m 54) (m 53 1) ((wdF (m 54) (m 53 1) (m 53 2)).2 + 1)).2.2)))) := by unfold clF; rw [eh, if_neg (show ¬ true = false by decide), if_neg (show ¬ (2 : Int) < 2 by decide)]
    rw [ec] at o1 o2
    have hlt := hx hw.2
    have hz := f7.1
    obtain ⟨j1, j2, j3, j4⟩ := EF_ok (m 54) (n := m 53 1) (a := (wdF (m 54) (m 53 1) (m 53 2)).2 + 1) (by omega)
    have hI : RdI (setA m 53 (ud (ud (m 53) 2 ((wdF (m 54) (m 53 1) (m 53 2)).2 + 1)) 7 55)) 55 := by
      unfold RdI
      simp (disch := omega) only [sA_same, sA_ne, sA_sA, sA_sr, sB_s, ud_eq, ud_ne, ud_ud, ud_sr, uB_s, Int.add_zero, Int.reduceAdd]
      exact ⟨hn, by omega, ht, by unfold ioA; omega, trivial, by omega, by omega⟩
    have hK2 : KT (setA m 53 (ud (ud (m 53) 2 ((wdF (m 54) (m 53 1) (m 53 2)).2 + 1)) 7 55)) := by unfold KT; simp (disch := omega) only [sA_same, sA_ne, sA_sA, sA_sr, sB_s, ud_eq, ud_ne, ud_ud, ud_sr, uB_s, Int.add_zero, Int.reduceAdd]; exact hK
    refine v_aload_n (n := 1) xB_43 dX5_clause_0 rfl rfl ?_
    refine v_call_v (n := 4) xB_43 dX5_clause_1 xO_43 iv_5_64 rfl (sh_53 _ _ _) rfl rfl rfl ?_
    refine k_word (by omega) hK ⟨hn, ha⟩ ?_
    (try simp (disch := omega) only [sA_same, sA_ne, sA_sA, sA_sr, sB_s, ud_eq, ud_ne, ud_ud, ud_sr, uB_s, Int.add_zero, Int.reduceAdd])
    refine v_istore_n1 (n := 5) xB_43 dX5_clause_4 rfl rfl ?_
    refine v_iload_n (n := 6) xB_43 dX5_clause_5 rfl rfl ?_
    refine v_if_lt_n (n := 9) xB_43 dX5_clause_6 (by decide) rfl (by first | omega | (simp only [sA_same, sA_s, ud_s, Int.reduceEq, if_true, if_false, ite_true, ite_false, ↓reduceIte, and_true, true_and, eq_self, Int.add_zero, Int.reduceAdd]; omega) | (simp (disch := omega) only [sA_same, sA_ne, ud_eq, ud_ne, Int.add_zero, Int.reduceAdd]; omega)) ?_
    refine v_aload_n (n := 10) xB_43 dX5_clause_9 rfl rfl ?_
    refine v_call_v (n := 13) xB_43 dX5_clause_10 xO_43 iv_5_60 rfl (sh_53 _ _ _) rfl rfl rfl ?_
    refine k_sign (by omega) (by simp (disch := omega) only [sA_same, sA_ne, sA_sA, sA_sr, sB_s, ud_eq, ud_ne, ud_ud, ud_sr, uB_s, Int.add_zero, Int.reduceAdd]; omega) ?_
    (try simp (disch := omega) only [sA_same, sA_ne, sA_sA, sA_sr, sB_s, ud_eq, ud_ne, ud_ud, ud_sr, uB_s, Int.add_zero, Int.reduceAdd])
    refine v_bipush (n := 15) xB_43 dX5_clause_13 ⟨by decide, by decide⟩ rfl ?_
    refine v_ic_eq_y (t := 20) xB_43 dX5_clause_15 (by decide) rfl (by first | omega | (simp only [sA_same, sA_s, ud_s, Int.reduceEq, if_true, if_false, ite_true, ite_false, ↓reduceIte, and_true, true_and, eq_self, Int.add_zero, Int.reduceAdd]; omega) | (simp (disch := omega) only [sA_same, sA_ne, ud_eq, ud_ne, Int.add_zero, Int.reduceAdd]; omega)) ?_
    refine v_aload_n (n := 21) xB_43 dX5_clause_20 rfl rfl ?_
    refine v_dup (n := 22) xB_43 dX5_clause_21 rfl rfl ?_
    refine v_gf_i (n := 25) (kz := 2) xB_43 dX5_clause_22 xO_43 fl_5_28 fg_5_2 rfl (sh_53 _ _ _) rfl rfl ?_
    refine v_iconst (n := 26) xB_43 dX5_clause_25 ⟨by decide, by decide⟩ rfl ?_
    refine v_iadd (n := 27) xB_43 dX5_clause_26 (by first | omega | (simp only [sA_same, sA_s, ud_s, Int.reduceEq, if_true, if_false, ite_true, ite_false, ↓reduceIte, and_true, true_and, eq_self, Int.add_zero, Int.reduceAdd]; omega) | (simp (disch := omega) only [sA_same, sA_ne, ud_eq, ud_ne, Int.add_zero, Int.reduceAdd]; omega)) rfl ?_
    refine v_pf_i (n := 30) (kz := 2) xB_43 dX5_clause_27 xO_43 fl_5_28 fg_5_2 (Or.inl fn_5_2) (sh_53 _ _ _) (by decide) rfl rfl ?_
    (try simp (disch := omega) only [sA_same, sA_ne, sA_sA, sA_sr, sB_s, ud_eq, ud_ne, ud_ud, ud_sr, uB_s, Int.add_zero, Int.reduceAdd])
    refine v_iload_n (n := 31) xB_43 dX5_clause_30 rfl rfl ?_
    refine v_if_eq_n (n := 34) xB_43 dX5_clause_31 (by decide) rfl (by first | omega | (simp only [sA_same, sA_s, ud_s, Int.reduceEq, if_true, if_false, ite_true, ite_false, ↓reduceIte, and_true, true_and, eq_self, Int.add_zero, Int.reduceAdd]; omega) | (simp (disch := omega) only [sA_same, sA_ne, ud_eq, ud_ne, Int.add_zero, Int.reduceAdd]; omega)) ?_
    refine v_iload_n (n := 35) xB_43 dX5_clause_34 rfl rfl ?_
    refine v_iconst (n := 36) xB_43 dX5_clause_35 ⟨by decide, by decide⟩ rfl ?_
    refine v_ic_ne_y (t := 45) xB_43 dX5_clause_36 (by decide) rfl (by first | omega | (simp only [sA_same, sA_s, ud_s, Int.reduceEq, if_true, if_false, ite_true, ite_false, ↓reduceIte, and_true, true_and, eq_self, Int.add_zero, Int.reduceAdd]; omega) | (simp (disch := omega) only [sA_same, sA_ne, ud_eq, ud_ne, Int.add_zero, Int.reduceAdd]; omega)) ?_
    refine v_aload_n (n := 46) xB_43 dX5_clause_45 rfl rfl ?_
    refine v_iload_n (n := 47) xB_43 dX5_clause_46 rfl rfl ?_
    refine v_iconst (n := 48) xB_43 dX5_clause_47 ⟨by decide, by decide⟩ rfl ?_
    refine v_ic_ne_n (n := 51) xB_43 dX5_clause_48 (by decide) rfl (by first | omega | (simp only [sA_same, sA_s, ud_s, Int.reduceEq, if_true, if_false, ite_true, ite_false, ↓reduceIte, and_true, true_and, eq_self, Int.add_zero, Int.reduceAdd]; omega) | (simp (disch := omega) only [sA_same, sA_ne, ud_eq, ud_ne, Int.add_zero, Int.reduceAdd]; omega)) ?_
    refine v_aload_n (n := 52) xB_43 dX5_clause_51 rfl rfl ?_
    refine v_gf_s (n := 55) (kz := 5) xB_43 dX5_clause_52 xO_43 fl_5_18 fg_5_5 (sh_53 _ _ _) rfl st_53_5 rfl ?_
    refine v_goto (t := 62) xB_43 dX5_clause_55 (by decide) rfl ?_
    refine v_pf_r (n := 65) (kz := 7) xB_43 dX5_clause_62 xO_43 fl_5_25 fg_5_7 (Or.inl fn_5_7) (sh_53 _ _ _) (by decide) rfl (by first | omega | (simp only [sA_same, sA_s, ud_s, Int.reduceEq, if_true, if_false, ite_true, ite_false, ↓reduceIte, and_true, true_and, eq_self, Int.add_zero, Int.reduceAdd]; omega) | (simp (disch := omega) only [sA_same, sA_ne, ud_eq, ud_ne, Int.add_zero, Int.reduceAdd]; omega)) st_53_7 rfl ?_
    (try simp (disch := omega) only [sA_same, sA_ne, sA_sA, sA_sr, sB_s, ud_eq, ud_ne, ud_ud, ud_sr, uB_s, Int.add_zero, Int.reduceAdd])
    refine v_aload_n (n := 66) xB_43 dX5_clause_65 rfl rfl ?_
    refine v_gf_d (n := 69) (kz := 7) xB_43 dX5_clause_66 xO_43 fl_5_25 fg_5_7 (sh_53 _ _ _) rfl st_53_7 rfl ?_
    (try simp (disch := omega) only [sA_same, sA_ne, sA_sA, sA_sr, sB_s, ud_eq, ud_ne, ud_ud, ud_sr, uB_s, Int.add_zero, Int.reduceAdd])
    refine v_gf_i (n := 72) (kz := 1) xB_43 dX5_clause_69 xO_43 fl_5_43 fg_7_1 rfl (sh_55 _ _ _) rfl rfl ?_
    refine v_if_le (t := 79) (n := 75) xB_43 dX5_clause_72 (by decide) rfl rfl (fun g1 => ?_) (fun g1 => ?_)
    · (try simp (disch := omega) only [sA_same, sA_ne, sA_sA, sA_sr, sB_s, ud_eq, ud_ne, ud_ud, ud_sr, uB_s, Int.add_zero, Int.reduceAdd] at g1)
      refine v_iconst (n := 80) xB_43 dX5_clause_79 ⟨by decide, by decide⟩ rfl ?_
      refine v_istore_n2 (n := 81) xB_43 dX5_clause_80 rfl rfl ?_
      refine v_aload_n (n := 82) xB_43 dX5_clause_81 rfl rfl ?_
      refine v_iconst (n := 83) xB_43 dX5_clause_82 ⟨by decide, by decide⟩ rfl ?_
      refine v_call_v (n := 86) xB_43 dX5_clause_83 xO_43 iv_5_71 rfl (sh_53 _ _ _) rfl rfl rfl ?_
      refine k_E (by omega) hK2 hI (fun gE mA hA => ?_) (fun gE mA hA => ?_)
      · simp (disch := omega) only [sA_same, sA_ne, sA_sA, sA_sr, sB_s, ud_eq, ud_ne, ud_ud, ud_sr, uB_s, Int.add_zero, Int.reduceAdd] at gE hA
        have hA0 := hA
        obtain ⟨⟨b1, b2, b3, b4⟩, b5, b6, b7⟩ := hA0
        simp (disch := omega) only [sA_ne, sA_same, ud_eq, ud_ne, Int.reduceAdd] at b4 b5 b6 b7
        have e53 : ∀ k : Int, k ≠ 2 → k ≠ 7 → mA 53 k = m 53 k := fun k p q => by rw [b2 k p, sA_same, ud_ne q, ud_ne p]
        have eo : ∀ x : Int, x ≠ 53 → x ≠ 55 → x ≠ 56 → mA x = m x := fun x p q r => by rw [b1 x p q (by omega), sA_ne p]
        have h7 : mA 53 7 = 55 := by rw [b2 7 (by omega), sA_same, ud_eq]
        have hLA : LA (mA 56) 0 (stW CL 2 ++ (EF (m 54) (m 53 1) ((wdF (m 54) (m 53 1) (m 53 2)).2 + 1)).2.2) := LA_ap _ _ _ (LA_fr _ _ f7.2 (fun i p q => b6 i (by omega))) (by rw [Int.zero_add, ← f7.1]; exact b7)
        have hlen : ((stW CL 2 ++ (EF (m 54) (m 53 1) ((wdF (m 54) (m 53 1) (m 53 2)).2 + 1)).2.2).length : Int) = mA 55 1 := by rw [List.length_append, b5]; omega
        refine v_if_ne_y (t := 91) xB_43 dX5_clause_86 (by decide) rfl (by decide) ?_
        refine v_iload_n (n := 92) xB_43 dX5_clause_91 rfl rfl ?_
        refine v_if_eq_y (t := 104) xB_43 dX5_clause_92 (by decide) rfl (by decide) ?_
        refine v_iconst (n := 105) xB_43 dX5_clause_104 ⟨by decide, by decide⟩ rfl ?_
        refine v_ireturn1 xB_43 dX5_clause_105 xK_43 (by decide) ?_
        first
        | exact o2 gE _ hz2
        | (have hE : stW CL 2 ≠ [] := fun q => by rw [q, List.length_nil] at hz; omega
           exact o1 gE _ (KG_e55 (a' := (EF (m 54) (m 53 1) ((wdF (m 54) (m 53 1) (m 53 2)).2 + 1)).2.1) hG (by omega) j1 (by rw [List.length_append, List.length_singleton]; omega) (jn_n hE) (fun x p q r => by simp (disch := omega) only [sA_ne]; exact eo x p q r) (fun k p q => by simp (disch := omega) only [sA_ne]; exact e53 k p q) (by simp (disch := omega) only [sA_ne]; exact b3) (by simp (disch := omega) only [sA_ne, sA_same, ud_eq]; rw [List.length_append, List.length_singleton]; omega) (by simp (disch := omega) only [sA_same, Int.reduceAdd]; exact LA_sn hLA (by omega))))
        | (have hE : stW CL 2 = [] := List.eq_nil_of_length_eq_zero (by omega)
           exact o1 gE _ (KG_e55 (a' := (EF (m 54) (m 53 1) ((wdF (m 54) (m 53 1) (m 53 2)).2 + 1)).2.1) hG (by omega) j1 (by rw [hE, List.nil_append] at hlen; omega) (jn_e hE) eo e53 b3 (by rw [hE, List.nil_append] at hlen; exact hlen.symm) (by rw [hE, List.nil_append] at hLA; exact hLA)))
      · simp (disch := omega) only [sA_same, sA_ne, sA_sA, sA_sr, sB_s, ud_eq, ud_ne, ud_ud, ud_sr, uB_s, Int.add_zero, Int.reduceAdd] at gE hA
        have hz2 : KF m0 mA (EF (m 54) (m 53 1) ((wdF (m 54) (m 53 1) (m 53 2)).2 + 1)).2.1 := ⟨fun x p => by rw [hA.1 x (by omega) (by omega) (by omega), sA_ne (by omega)]; exact f1 x p, by rw [hA.1 54 (by omega) (by omega) (by omega), sA_ne (by omega)]; exact f2, by rw [hA.2.1 1 (by omega), sA_same, ud_ne (by omega), ud_ne (by omega)]; exact f3, hA.2.2.1⟩
        refine v_if_ne_n (n := 89) xB_43 dX5_clause_86 (by decide) rfl (by decide) ?_
        refine v_iconst (n := 90) xB_43 dX5_clause_89 ⟨by decide, by decide⟩ rfl ?_
        refine v_ireturn1 xB_43 dX5_clause_90 xK_43 (by decide) ?_
        first
        | exact o2 gE _ hz2
        | (have hE : stW CL 2 ≠ [] := fun q => by rw [q, List.length_nil] at hz; omega
           exact o1 gE _ (KG_e55 (a' := (EF (m 54) (m 53 1) ((wdF (m 54) (m 53 1) (m 53 2)).2 + 1)).2.1) hG (by omega) j1 (by rw [List.length_append, List.length_singleton]; omega) (jn_n hE) (fun x p q r => by simp (disch := omega) only [sA_ne]; exact eo x p q r) (fun k p q => by simp (disch := omega) only [sA_ne]; exact e53 k p q) (by simp (disch := omega) only [sA_ne]; exact b3) (by simp (disch := omega) only [sA_ne, sA_same, ud_eq]; rw [List.length_append, List.length_singleton]; omega) (by simp (disch := omega) only [sA_same, Int.reduceAdd]; exact LA_sn hLA (by omega))))
        | (have hE : stW CL 2 = [] := List.eq_nil_of_length_eq_zero (by omega)
           exact o1 gE _ (KG_e55 (a' := (EF (m 54) (m 53 1) ((wdF (m 54) (m 53 1) (m 53 2)).2 + 1)).2.1) hG (by omega) j1 (by rw [hE, List.nil_append] at hlen; omega) (jn_e hE) eo e53 b3 (by rw [hE, List.nil_append] at hlen; exact hlen.symm) (by rw [hE, List.nil_append] at hLA; exact hLA)))
    · (try simp (disch := omega) only [sA_same, sA_ne, sA_sA, sA_sr, sB_s, ud_eq, ud_ne, ud_ud, ud_sr, uB_s, Int.add_zero, Int.reduceAdd] at g1)
      refine v_iconst (n := 76) xB_43 dX5_clause_75 ⟨by decide, by decide⟩ rfl ?_
      refine v_goto (t := 80) xB_43 dX5_clause_76 (by decide) rfl ?_
      refine v_istore_n2 (n := 81) xB_43 dX5_clause_80 rfl rfl ?_
      refine v_aload_n (n := 82) xB_43 dX5_clause_81 rfl rfl ?_
      refine v_iconst (n := 83) xB_43 dX5_clause_82 ⟨by decide, by decide⟩ rfl ?_
      refine v_call_v (n := 86) xB_43 dX5_clause_83 xO_43 iv_5_71 rfl (sh_53 _ _ _) rfl rfl rfl ?_
      refine k_E (by omega) hK2 hI (fun gE mA hA => ?_) (fun gE mA hA => ?_)
      · simp (disch := omega) only [sA_same, sA_ne, sA_sA, sA_sr, sB_s, ud_eq, ud_ne, ud_ud, ud_sr, uB_s, Int.add_zero, Int.reduceAdd] at gE hA
        have hA0 := hA
        obtain ⟨⟨b1, b2, b3, b4⟩, b5, b6, b7⟩ := hA0
        simp (disch := omega) only [sA_ne, sA_same, ud_eq, ud_ne, Int.reduceAdd] at b4 b5 b6 b7
        have e53 : ∀ k : Int, k ≠ 2 → k ≠ 7 → mA 53 k = m 53 k := fun k p q => by rw [b2 k p, sA_same, ud_ne q, ud_ne p]
        have eo : ∀ x : Int, x ≠ 53 → x ≠ 55 → x ≠ 56 → mA x = m x := fun x p q r => by rw [b1 x p q (by omega), sA_ne p]
        have h7 : mA 53 7 = 55 := by rw [b2 7 (by omega), sA_same, ud_eq]
        have hLA : LA (mA 56) 0 (stW CL 2 ++ (EF (m 54) (m 53 1) ((wdF (m 54) (m 53 1) (m 53 2)).2 + 1)).2.2) := LA_ap _ _ _ (LA_fr _ _ f7.2 (fun i p q => b6 i (by omega))) (by rw [Int.zero_add, ← f7.1]; exact b7)
        have hlen : ((stW CL 2 ++ (EF (m 54) (m 53 1) ((wdF (m 54) (m 53 1) (m 53 2)).2 + 1)).2.2).length : Int) = mA 55 1 := by rw [List.length_append, b5]; omega
        refine v_if_ne_y (t := 91) xB_43 dX5_clause_86 (by decide) rfl (by decide) ?_
        refine v_iload_n (n := 92) xB_43 dX5_clause_91 rfl rfl ?_
        refine v_if_eq_n (n := 95) xB_43 dX5_clause_92 (by decide) rfl (by decide) ?_
        refine v_aload_n (n := 96) xB_43 dX5_clause_95 rfl rfl ?_
        refine v_gf_d (n := 99) (kz := 7) xB_43 dX5_clause_96 xO_43 fl_5_25 fg_5_7 (sh_53 _ _ _) rfl st_53_7 rfl ?_
        rw [h7]
        refine v_bipush (n := 101) xB_43 dX5_clause_99 ⟨by decide, by decide⟩ rfl ?_
        refine v_call_v (n := 104) xB_43 dX5_clause_101 xO_43 iv_5_74 rfl (sh_55 _ _ _) rfl rfl rfl ?_
        refine k_stepadd (by omega) (by unfold ioA; omega) (by omega) ?_
        (try simp (disch := omega) only [sA_same, sA_ne, sA_sA, sA_sr, sB_s, ud_eq, ud_ne, ud_ud, ud_sr, uB_s, Int.add_zero, Int.reduceAdd])
        refine v_iconst (n := 105) xB_43 dX5_clause_104 ⟨by decide, by decide⟩ rfl ?_
        refine v_ireturn1 xB_43 dX5_clause_105 xK_43 (by decide) ?_
        first
        | exact o2 gE _ hz2
        | (have hE : stW CL 2 ≠ [] := fun q => by rw [q, List.length_nil] at hz; omega
           exact o1 gE _ (KG_e55 (a' := (EF (m 54) (m 53 1) ((wdF (m 54) (m 53 1) (m 53 2)).2 + 1)).2.1) hG (by omega) j1 (by rw [List.length_append, List.length_singleton]; omega) (jn_n hE) (fun x p q r => by simp (disch := omega) only [sA_ne]; exact eo x p q r) (fun k p q => by simp (disch := omega) only [sA_ne]; exact e53 k p q) (by simp (disch := omega) only [sA_ne]; exact b3) (by simp (disch := omega) only [sA_ne, sA_same, ud_eq]; rw [List.length_append, List.length_singleton]; omega) (by simp (disch := omega) only [sA_same, Int.reduceAdd]; exact LA_sn hLA (by omega))))
        | (have hE : stW CL 2 = [] := List.eq_nil_of_length_eq_zero (by omega)
           exact o1 gE _ (KG_e55 (a' := (EF (m 54) (m 53 1) ((wdF (m 54) (m 53 1) (m 53 2)).2 + 1)).2.1) hG (by omega) j1 (by rw [hE, List.nil_append] at hlen; omega) (jn_e hE) eo e53 b3 (by rw [hE, List.nil_append] at hlen; exact hlen.symm) (by rw [hE, List.nil_append] at hLA; exact hLA)))
      · simp (disch := omega) only [sA_same, sA_ne, sA_sA, sA_sr, sB_s, ud_eq, ud_ne, ud_ud, ud_sr, uB_s, Int.add_zero, Int.reduceAdd] at gE hA
        have hz2 : KF m0 mA (EF (m 54) (m 53 1) ((wdF (m 54) (m 53 1) (m 53 2)).2 + 1)).2.1 := ⟨fun x p => by rw [hA.1 x (by omega) (by omega) (by omega), sA_ne (by omega)]; exact f1 x p, by rw [hA.1 54 (by omega) (by omega) (by omega), sA_ne (by omega)]; exact f2, by rw [hA.2.1 1 (by omega), sA_same, ud_ne (by omega), ud_ne (by omega)]; exact f3, hA.2.2.1⟩
        refine v_if_ne_n (n := 89) xB_43 dX5_clause_86 (by decide) rfl (by decide) ?_
        refine v_iconst (n := 90) xB_43 dX5_clause_89 ⟨by decide, by decide⟩ rfl ?_
        refine v_ireturn1 xB_43 dX5_clause_90 xK_43 (by decide) ?_
        first
        | exact o2 gE _ hz2
        | (have hE : stW CL 2 ≠ [] := fun q => by rw [q, List.length_nil] at hz; omega
           exact o1 gE _ (KG_e55 (a' := (EF (m 54) (m 53 1) ((wdF (m 54) (m 53 1) (m 53 2)).2 + 1)).2.1) hG (by omega) j1 (by rw [List.length_append, List.length_singleton]; omega) (jn_n hE) (fun x p q r => by simp (disch := omega) only [sA_ne]; exact eo x p q r) (fun k p q => by simp (disch := omega) only [sA_ne]; exact e53 k p q) (by simp (disch := omega) only [sA_ne]; exact b3) (by simp (disch := omega) only [sA_ne, sA_same, ud_eq]; rw [List.length_append, List.length_singleton]; omega) (by simp (disch := omega) only [sA_same, Int.reduceAdd]; exact LA_sn hLA (by omega))))
        | (have hE : stW CL 2 = [] := List.eq_nil_of_length_eq_zero (by omega)
           exact o1 gE _ (KG_e55 (a' := (EF (m 54) (m 53 1) ((wdF (m 54) (m 53 1) (m 53 2)).2 + 1)).2.1) hG (by omega) j1 (by rw [hE, List.nil_append] at hlen; omega) (jn_e hE) eo e53 b3 (by rw [hE, List.nil_append] at hlen; exact hlen.symm) (by rw [hE, List.nil_append] at hLA; exact hLA)))
  · have eh : hdF (m 54) (m 53 1) (m 53 2) = (true, ((wdF (m 54) (m 53 1) (m 53 2)).2 + 1, 3)) := by unfold hdF; rw [if_neg (by omega), if_pos hw.2, hw.1]
    have ec : clF (m 54) (m 53 1) (m 53 2) = ((EF (m 54) (m 53 1) ((wdF (m 54) (m 53 1) (m 53 2)).2 + 1)).1, ((EF (m 54) (m 53 1) ((wdF (m 54) (m 53 1) (m 53 2)).2 + 1)).2.1, (3, (0, (EF (m 54) (m 53 1) ((wdF (m 54) (m 53 1) (m 53 2)).2 + 1)).2.2)))) := by unfold clF; rw [eh, if_neg (show ¬ true = false by decide), if_neg (show ¬ (3 : Int) < 2 by decide)]
    rw [ec] at o1 o2
    have hlt := hx hw.2
    have hz := f8.1
    obtain ⟨j1, j2, j3, j4⟩ := EF_ok (m 54) (n := m 53 1) (a := (wdF (m 54) (m 53 1) (m 53 2)).2 + 1) (by omega)
    have hI : RdI (setA m 53 (ud (ud (m 53) 2 ((wdF (m 54) (m 53 1) (m 53 2)).2 + 1)) 7 57)) 57 := by
      unfold RdI
      simp (disch := omega) only [sA_same, sA_ne, sA_sA, sA_sr, sB_s, ud_eq, ud_ne, ud_ud, ud_sr, uB_s, Int.add_zero, Int.reduceAdd]
      exact ⟨hn, by omega, ht, by unfold ioA; omega, trivial, by omega, by omega⟩
    have hK2 : KT (setA m 53 (ud (ud (m 53) 2 ((wdF (m 54) (m 53 1) (m 53 2)).2 + 1)) 7 57)) := by unfold KT; simp (disch := omega) only [sA_same, sA_ne, sA_sA, sA_sr, sB_s, ud_eq, ud_ne, ud_ud, ud_sr, uB_s, Int.add_zero, Int.reduceAdd]; exact hK
    refine v_aload_n (n := 1) xB_43 dX5_clause_0 rfl rfl ?_
    refine v_call_v (n := 4) xB_43 dX5_clause_1 xO_43 iv_5_64 rfl (sh_53 _ _ _) rfl rfl rfl ?_
    refine k_word (by omega) hK ⟨hn, ha⟩ ?_
    (try simp (disch := omega) only [sA_same, sA_ne, sA_sA, sA_sr, sB_s, ud_eq, ud_ne, ud_ud, ud_sr, uB_s, Int.add_zero, Int.reduceAdd])
    refine v_istore_n1 (n := 5) xB_43 dX5_clause_4 rfl rfl ?_
    refine v_iload_n (n := 6) xB_43 dX5_clause_5 rfl rfl ?_
    refine v_if_lt_n (n := 9) xB_43 dX5_clause_6 (by decide) rfl (by first | omega | (simp only [sA_same, sA_s, ud_s, Int.reduceEq, if_true, if_false, ite_true, ite_false, ↓reduceIte, and_true, true_and, eq_self, Int.add_zero, Int.reduceAdd]; omega) | (simp (disch := omega) only [sA_same, sA_ne, ud_eq, ud_ne, Int.add_zero, Int.reduceAdd]; omega)) ?_
    refine v_aload_n (n := 10) xB_43 dX5_clause_9 rfl rfl ?_
    refine v_call_v (n := 13) xB_43 dX5_clause_10 xO_43 iv_5_60 rfl (sh_53 _ _ _) rfl rfl rfl ?_
    refine k_sign (by omega) (by simp (disch := omega) only [sA_same, sA_ne, sA_sA, sA_sr, sB_s, ud_eq, ud_ne, ud_ud, ud_sr, uB_s, Int.add_zero, Int.reduceAdd]; omega) ?_
    (try simp (disch := omega) only [sA_same, sA_ne, sA_sA, sA_sr, sB_s, ud_eq, ud_ne, ud_ud, ud_sr, uB_s, Int.add_zero, Int.reduceAdd])
    refine v_bipush (n := 15) xB_43 dX5_clause_13 ⟨by decide, by decide⟩ rfl ?_
    refine v_ic_eq_y (t := 20) xB_43 dX5_clause_15 (by decide) rfl (by first | omega | (simp only [sA_same, sA_s, ud_s, Int.reduceEq, if_true, if_false, ite_true, ite_false, ↓reduceIte, and_true, true_and, eq_self, Int.add_zero, Int.reduceAdd]; omega) | (simp (disch := omega) only [sA_same, sA_ne, ud_eq, ud_ne, Int.add_zero, Int.reduceAdd]; omega)) ?_
    refine v_aload_n (n := 21) xB_43 dX5_clause_20 rfl rfl ?_
    refine v_dup (n := 22) xB_43 dX5_clause_21 rfl rfl ?_
    refine v_gf_i (n := 25) (kz := 2) xB_43 dX5_clause_22 xO_43 fl_5_28 fg_5_2 rfl (sh_53 _ _ _) rfl rfl ?_
    refine v_iconst (n := 26) xB_43 dX5_clause_25 ⟨by decide, by decide⟩ rfl ?_
    refine v_iadd (n := 27) xB_43 dX5_clause_26 (by first | omega | (simp only [sA_same, sA_s, ud_s, Int.reduceEq, if_true, if_false, ite_true, ite_false, ↓reduceIte, and_true, true_and, eq_self, Int.add_zero, Int.reduceAdd]; omega) | (simp (disch := omega) only [sA_same, sA_ne, ud_eq, ud_ne, Int.add_zero, Int.reduceAdd]; omega)) rfl ?_
    refine v_pf_i (n := 30) (kz := 2) xB_43 dX5_clause_27 xO_43 fl_5_28 fg_5_2 (Or.inl fn_5_2) (sh_53 _ _ _) (by decide) rfl rfl ?_
    (try simp (disch := omega) only [sA_same, sA_ne, sA_sA, sA_sr, sB_s, ud_eq, ud_ne, ud_ud, ud_sr, uB_s, Int.add_zero, Int.reduceAdd])
    refine v_iload_n (n := 31) xB_43 dX5_clause_30 rfl rfl ?_
    refine v_if_eq_n (n := 34) xB_43 dX5_clause_31 (by decide) rfl (by first | omega | (simp only [sA_same, sA_s, ud_s, Int.reduceEq, if_true, if_false, ite_true, ite_false, ↓reduceIte, and_true, true_and, eq_self, Int.add_zero, Int.reduceAdd]; omega) | (simp (disch := omega) only [sA_same, sA_ne, ud_eq, ud_ne, Int.add_zero, Int.reduceAdd]; omega)) ?_
    refine v_iload_n (n := 35) xB_43 dX5_clause_34 rfl rfl ?_
    refine v_iconst (n := 36) xB_43 dX5_clause_35 ⟨by decide, by decide⟩ rfl ?_
    refine v_ic_ne_y (t := 45) xB_43 dX5_clause_36 (by decide) rfl (by first | omega | (simp only [sA_same, sA_s, ud_s, Int.reduceEq, if_true, if_false, ite_true, ite_false, ↓reduceIte, and_true, true_and, eq_self, Int.add_zero, Int.reduceAdd]; omega) | (simp (disch := omega) only [sA_same, sA_ne, ud_eq, ud_ne, Int.add_zero, Int.reduceAdd]; omega)) ?_
    refine v_aload_n (n := 46) xB_43 dX5_clause_45 rfl rfl ?_
    refine v_iload_n (n := 47) xB_43 dX5_clause_46 rfl rfl ?_
    refine v_iconst (n := 48) xB_43 dX5_clause_47 ⟨by decide, by decide⟩ rfl ?_
    refine v_ic_ne_y (t := 58) xB_43 dX5_clause_48 (by decide) rfl (by first | omega | (simp only [sA_same, sA_s, ud_s, Int.reduceEq, if_true, if_false, ite_true, ite_false, ↓reduceIte, and_true, true_and, eq_self, Int.add_zero, Int.reduceAdd]; omega) | (simp (disch := omega) only [sA_same, sA_ne, ud_eq, ud_ne, Int.add_zero, Int.reduceAdd]; omega)) ?_
    refine v_aload_n (n := 59) xB_43 dX5_clause_58 rfl rfl ?_
    refine v_gf_s (n := 62) (kz := 6) xB_43 dX5_clause_59 xO_43 fl_5_22 fg_5_6 (sh_53 _ _ _) rfl st_53_6 rfl ?_
    refine v_pf_r (n := 65) (kz := 7) xB_43 dX5_clause_62 xO_43 fl_5_25 fg_5_7 (Or.inl fn_5_7) (sh_53 _ _ _) (by decide) rfl (by first | omega | (simp only [sA_same, sA_s, ud_s, Int.reduceEq, if_true, if_false, ite_true, ite_false, ↓reduceIte, and_true, true_and, eq_self, Int.add_zero, Int.reduceAdd]; omega) | (simp (disch := omega) only [sA_same, sA_ne, ud_eq, ud_ne, Int.add_zero, Int.reduceAdd]; omega)) st_53_7 rfl ?_
    (try simp (disch := omega) only [sA_same, sA_ne, sA_sA, sA_sr, sB_s, ud_eq, ud_ne, ud_ud, ud_sr, uB_s, Int.add_zero, Int.reduceAdd])
    refine v_aload_n (n := 66) xB_43 dX5_clause_65 rfl rfl ?_
    refine v_gf_d (n := 69) (kz := 7) xB_43 dX5_clause_66 xO_43 fl_5_25 fg_5_7 (sh_53 _ _ _) rfl st_53_7 rfl ?_
    (try simp (disch := omega) only [sA_same, sA_ne, sA_sA, sA_sr, sB_s, ud_eq, ud_ne, ud_ud, ud_sr, uB_s, Int.add_zero, Int.reduceAdd])
    refine v_gf_i (n := 72) (kz := 1) xB_43 dX5_clause_69 xO_43 fl_5_43 fg_7_1 rfl (sh_57 _ _ _) rfl rfl ?_
    refine v_if_le (t := 79) (n := 75) xB_43 dX5_clause_72 (by decide) rfl rfl (fun g1 => ?_) (fun g1 => ?_)
    · (try simp (disch := omega) only [sA_same, sA_ne, sA_sA, sA_sr, sB_s, ud_eq, ud_ne, ud_ud, ud_sr, uB_s, Int.add_zero, Int.reduceAdd] at g1)
      refine v_iconst (n := 80) xB_43 dX5_clause_79 ⟨by decide, by decide⟩ rfl ?_
      refine v_istore_n2 (n := 81) xB_43 dX5_clause_80 rfl rfl ?_
      refine v_aload_n (n := 82) xB_43 dX5_clause_81 rfl rfl ?_
      refine v_iconst (n := 83) xB_43 dX5_clause_82 ⟨by decide, by decide⟩ rfl ?_
      refine v_call_v (n := 86) xB_43 dX5_clause_83 xO_43 iv_5_71 rfl (sh_53 _ _ _) rfl rfl rfl ?_
      refine k_E (by omega) hK2 hI (fun gE mA hA => ?_) (fun gE mA hA => ?_)
      · simp (disch := omega) only [sA_same, sA_ne, sA_sA, sA_sr, sB_s, ud_eq, ud_ne, ud_ud, ud_sr, uB_s, Int.add_zero, Int.reduceAdd] at gE hA
        have hA0 := hA
        obtain ⟨⟨b1, b2, b3, b4⟩, b5, b6, b7⟩ := hA0
        simp (disch := omega) only [sA_ne, sA_same, ud_eq, ud_ne, Int.reduceAdd] at b4 b5 b6 b7
        have e53 : ∀ k : Int, k ≠ 2 → k ≠ 7 → mA 53 k = m 53 k := fun k p q => by rw [b2 k p, sA_same, ud_ne q, ud_ne p]
        have eo : ∀ x : Int, x ≠ 53 → x ≠ 57 → x ≠ 58 → mA x = m x := fun x p q r => by rw [b1 x p q (by omega), sA_ne p]
        have h7 : mA 53 7 = 57 := by rw [b2 7 (by omega), sA_same, ud_eq]
        have hLA : LA (mA 58) 0 (stW CL 3 ++ (EF (m 54) (m 53 1) ((wdF (m 54) (m 53 1) (m 53 2)).2 + 1)).2.2) := LA_ap _ _ _ (LA_fr _ _ f8.2 (fun i p q => b6 i (by omega))) (by rw [Int.zero_add, ← f8.1]; exact b7)
        have hlen : ((stW CL 3 ++ (EF (m 54) (m 53 1) ((wdF (m 54) (m 53 1) (m 53 2)).2 + 1)).2.2).length : Int) = mA 57 1 := by rw [List.length_append, b5]; omega
        refine v_if_ne_y (t := 91) xB_43 dX5_clause_86 (by decide) rfl (by decide) ?_
        refine v_iload_n (n := 92) xB_43 dX5_clause_91 rfl rfl ?_
        refine v_if_eq_y (t := 104) xB_43 dX5_clause_92 (by decide) rfl (by decide) ?_
        refine v_iconst (n := 105) xB_43 dX5_clause_104 ⟨by decide, by decide⟩ rfl ?_
        refine v_ireturn1 xB_43 dX5_clause_105 xK_43 (by decide) ?_
        first
        | exact o2 gE _ hz2
        | (have hE : stW CL 3 ≠ [] := fun q => by rw [q, List.length_nil] at hz; omega
           exact o1 gE _ (KG_e57 (a' := (EF (m 54) (m 53 1) ((wdF (m 54) (m 53 1) (m 53 2)).2 + 1)).2.1) hG (by omega) j1 (by rw [List.length_append, List.length_singleton]; omega) (jn_n hE) (fun x p q r => by simp (disch := omega) only [sA_ne]; exact eo x p q r) (fun k p q => by simp (disch := omega) only [sA_ne]; exact e53 k p q) (by simp (disch := omega) only [sA_ne]; exact b3) (by simp (disch := omega) only [sA_ne, sA_same, ud_eq]; rw [List.length_append, List.length_singleton]; omega) (by simp (disch := omega) only [sA_same, Int.reduceAdd]; exact LA_sn hLA (by omega))))
        | (have hE : stW CL 3 = [] := List.eq_nil_of_length_eq_zero (by omega)
           exact o1 gE _ (KG_e57 (a' := (EF (m 54) (m 53 1) ((wdF (m 54) (m 53 1) (m 53 2)).2 + 1)).2.1) hG (by omega) j1 (by rw [hE, List.nil_append] at hlen; omega) (jn_e hE) eo e53 b3 (by rw [hE, List.nil_append] at hlen; exact hlen.symm) (by rw [hE, List.nil_append] at hLA; exact hLA)))
      · simp (disch := omega) only [sA_same, sA_ne, sA_sA, sA_sr, sB_s, ud_eq, ud_ne, ud_ud, ud_sr, uB_s, Int.add_zero, Int.reduceAdd] at gE hA
        have hz2 : KF m0 mA (EF (m 54) (m 53 1) ((wdF (m 54) (m 53 1) (m 53 2)).2 + 1)).2.1 := ⟨fun x p => by rw [hA.1 x (by omega) (by omega) (by omega), sA_ne (by omega)]; exact f1 x p, by rw [hA.1 54 (by omega) (by omega) (by omega), sA_ne (by omega)]; exact f2, by rw [hA.2.1 1 (by omega), sA_same, ud_ne (by omega), ud_ne (by omega)]; exact f3, hA.2.2.1⟩
        refine v_if_ne_n (n := 89) xB_43 dX5_clause_86 (by decide) rfl (by decide) ?_
        refine v_iconst (n := 90) xB_43 dX5_clause_89 ⟨by decide, by decide⟩ rfl ?_
        refine v_ireturn1 xB_43 dX5_clause_90 xK_43 (by decide) ?_
        first
        | exact o2 gE _ hz2
        | (have hE : stW CL 3 ≠ [] := fun q => by rw [q, List.length_nil] at hz; omega
           exact o1 gE _ (KG_e57 (a' := (EF (m 54) (m 53 1) ((wdF (m 54) (m 53 1) (m 53 2)).2 + 1)).2.1) hG (by omega) j1 (by rw [List.length_append, List.length_singleton]; omega) (jn_n hE) (fun x p q r => by simp (disch := omega) only [sA_ne]; exact eo x p q r) (fun k p q => by simp (disch := omega) only [sA_ne]; exact e53 k p q) (by simp (disch := omega) only [sA_ne]; exact b3) (by simp (disch := omega) only [sA_ne, sA_same, ud_eq]; rw [List.length_append, List.length_singleton]; omega) (by simp (disch := omega) only [sA_same, Int.reduceAdd]; exact LA_sn hLA (by omega))))
        | (have hE : stW CL 3 = [] := List.eq_nil_of_length_eq_zero (by omega)
           exact o1 gE _ (KG_e57 (a' := (EF (m 54) (m 53 1) ((wdF (m 54) (m 53 1) (m 53 2)).2 + 1)).2.1) hG (by omega) j1 (by rw [hE, List.nil_append] at hlen; omega) (jn_e hE) eo e53 b3 (by rw [hE, List.nil_append] at hlen; exact hlen.symm) (by rw [hE, List.nil_append] at hLA; exact hLA)))
    · (try simp (disch := omega) only [sA_same, sA_ne, sA_sA, sA_sr, sB_s, ud_eq, ud_ne, ud_ud, ud_sr, uB_s, Int.add_zero, Int.reduceAdd] at g1)
      refine v_iconst (n := 76) xB_43 dX5_clause_75 ⟨by decide, by decide⟩ rfl ?_
      refine v_goto (t := 80) xB_43 dX5_clause_76 (by decide) rfl ?_
      refine v_istore_n2 (n := 81) xB_43 dX5_clause_80 rfl rfl ?_
      refine v_aload_n (n := 82) xB_43 dX5_clause_81 rfl rfl ?_
      refine v_iconst (n := 83) xB_43 dX5_clause_82 ⟨by decide, by decide⟩ rfl ?_
      refine v_call_v (n := 86) xB_43 dX5_clause_83 xO_43 iv_5_71 rfl (sh_53 _ _ _) rfl rfl rfl ?_
      refine k_E (by omega) hK2 hI (fun gE mA hA => ?_) (fun gE mA hA => ?_)
      · simp (disch := omega) only [sA_same, sA_ne, sA_sA, sA_sr, sB_s, ud_eq, ud_ne, ud_ud, ud_sr, uB_s, Int.add_zero, Int.reduceAdd] at gE hA
        have hA0 := hA
        obtain ⟨⟨b1, b2, b3, b4⟩, b5, b6, b7⟩ := hA0
        simp (disch := omega) only [sA_ne, sA_same, ud_eq, ud_ne, Int.reduceAdd] at b4 b5 b6 b7
        have e53 : ∀ k : Int, k ≠ 2 → k ≠ 7 → mA 53 k = m 53 k := fun k p q => by rw [b2 k p, sA_same, ud_ne q, ud_ne p]
        have eo : ∀ x : Int, x ≠ 53 → x ≠ 57 → x ≠ 58 → mA x = m x := fun x p q r => by rw [b1 x p q (by omega), sA_ne p]
        have h7 : mA 53 7 = 57 := by rw [b2 7 (by omega), sA_same, ud_eq]
        have hLA : LA (mA 58) 0 (stW CL 3 ++ (EF (m 54) (m 53 1) ((wdF (m 54) (m 53 1) (m 53 2)).2 + 1)).2.2) := LA_ap _ _ _ (LA_fr _ _ f8.2 (fun i p q => b6 i (by omega))) (by rw [Int.zero_add, ← f8.1]; exact b7)
        have hlen : ((stW CL 3 ++ (EF (m 54) (m 53 1) ((wdF (m 54) (m 53 1) (m 53 2)).2 + 1)).2.2).length : Int) = mA 57 1 := by rw [List.length_append, b5]; omega
        refine v_if_ne_y (t := 91) xB_43 dX5_clause_86 (by decide) rfl (by decide) ?_
        refine v_iload_n (n := 92) xB_43 dX5_clause_91 rfl rfl ?_
        refine v_if_eq_n (n := 95) xB_43 dX5_clause_92 (by decide) rfl (by decide) ?_
        refine v_aload_n (n := 96) xB_43 dX5_clause_95 rfl rfl ?_
        refine v_gf_d (n := 99) (kz := 7) xB_43 dX5_clause_96 xO_43 fl_5_25 fg_5_7 (sh_53 _ _ _) rfl st_53_7 rfl ?_
        rw [h7]
        refine v_bipush (n := 101) xB_43 dX5_clause_99 ⟨by decide, by decide⟩ rfl ?_
        refine v_call_v (n := 104) xB_43 dX5_clause_101 xO_43 iv_5_74 rfl (sh_57 _ _ _) rfl rfl rfl ?_
        refine k_stepadd (by omega) (by unfold ioA; omega) (by omega) ?_
        (try simp (disch := omega) only [sA_same, sA_ne, sA_sA, sA_sr, sB_s, ud_eq, ud_ne, ud_ud, ud_sr, uB_s, Int.add_zero, Int.reduceAdd])
        refine v_iconst (n := 105) xB_43 dX5_clause_104 ⟨by decide, by decide⟩ rfl ?_
        refine v_ireturn1 xB_43 dX5_clause_105 xK_43 (by decide) ?_
        first
        | exact o2 gE _ hz2
        | (have hE : stW CL 3 ≠ [] := fun q => by rw [q, List.length_nil] at hz; omega
           exact o1 gE _ (KG_e57 (a' := (EF (m 54) (m 53 1) ((wdF (m 54) (m 53 1) (m 53 2)).2 + 1)).2.1) hG (by omega) j1 (by rw [List.length_append, List.length_singleton]; omega) (jn_n hE) (fun x p q r => by simp (disch := omega) only [sA_ne]; exact eo x p q r) (fun k p q => by simp (disch := omega) only [sA_ne]; exact e53 k p q) (by simp (disch := omega) only [sA_ne]; exact b3) (by simp (disch := omega) only [sA_ne, sA_same, ud_eq]; rw [List.length_append, List.length_singleton]; omega) (by simp (disch := omega) only [sA_same, Int.reduceAdd]; exact LA_sn hLA (by omega))))
        | (have hE : stW CL 3 = [] := List.eq_nil_of_length_eq_zero (by omega)
           exact o1 gE _ (KG_e57 (a' := (EF (m 54) (m 53 1) ((wdF (m 54) (m 53 1) (m 53 2)).2 + 1)).2.1) hG (by omega) j1 (by rw [hE, List.nil_append] at hlen; omega) (jn_e hE) eo e53 b3 (by rw [hE, List.nil_append] at hlen; exact hlen.symm) (by rw [hE, List.nil_append] at hLA; exact hLA)))
      · simp (disch := omega) only [sA_same, sA_ne, sA_sA, sA_sr, sB_s, ud_eq, ud_ne, ud_ud, ud_sr, uB_s, Int.add_zero, Int.reduceAdd] at gE hA
        have hz2 : KF m0 mA (EF (m 54) (m 53 1) ((wdF (m 54) (m 53 1) (m 53 2)).2 + 1)).2.1 := ⟨fun x p => by rw [hA.1 x (by omega) (by omega) (by omega), sA_ne (by omega)]; exact f1 x p, by rw [hA.1 54 (by omega) (by omega) (by omega), sA_ne (by omega)]; exact f2, by rw [hA.2.1 1 (by omega), sA_same, ud_ne (by omega), ud_ne (by omega)]; exact f3, hA.2.2.1⟩
        refine v_if_ne_n (n := 89) xB_43 dX5_clause_86 (by decide) rfl (by decide) ?_
        refine v_iconst (n := 90) xB_43 dX5_clause_89 ⟨by decide, by decide⟩ rfl ?_
        refine v_ireturn1 xB_43 dX5_clause_90 xK_43 (by decide) ?_
        first
        | exact o2 gE _ hz2
        | (have hE : stW CL 3 ≠ [] := fun q => by rw [q, List.length_nil] at hz; omega
           exact o1 gE _ (KG_e57 (a' := (EF (m 54) (m 53 1) ((wdF (m 54) (m 53 1) (m 53 2)).2 + 1)).2.1) hG (by omega) j1 (by rw [List.length_append, List.length_singleton]; omega) (jn_n hE) (fun x p q r => by simp (disch := omega) only [sA_ne]; exact eo x p q r) (fun k p q => by simp (disch := omega) only [sA_ne]; exact e53 k p q) (by simp (disch := omega) only [sA_ne]; exact b3) (by simp (disch := omega) only [sA_ne, sA_same, ud_eq]; rw [List.length_append, List.length_singleton]; omega) (by simp (disch := omega) only [sA_same, Int.reduceAdd]; exact LA_sn hLA (by omega))))
        | (have hE : stW CL 3 = [] := List.eq_nil_of_length_eq_zero (by omega)
           exact o1 gE _ (KG_e57 (a' := (EF (m 54) (m 53 1) ((wdF (m 54) (m 53 1) (m 53 2)).2 + 1)).2.1) hG (by omega) j1 (by rw [hE, List.nil_append] at hlen; omega) (jn_e hE) eo e53 b3 (by rw [hE, List.nil_append] at hlen; exact hlen.symm) (by rw [hE, List.nil_append] at hLA; exact hLA)))
