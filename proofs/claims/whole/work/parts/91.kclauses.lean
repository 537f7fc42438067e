/-! The class reads a job. -/
theorem KG_at {m0 m m2 : PM} {a : Int} {CL : CLs} (h : KG m0 m a CL) (e : m2 = setA m 53 (ud (m 53) 2 (a + 1))) : KG m0 m2 (a + 1) CL := by
  subst e
  obtain ⟨⟨h1, h2, h3, h4⟩, h5, h6, h7, h8, h9, h10⟩ := h
  unfold KG KF
  simp (disch := omega) only [sA_ne, sA_same, ud_eq, ud_ne]
  exact ⟨⟨fun x p => by rw [sA_ne (by omega)]; exact h1 x p, h2, h3, trivial⟩, h5, h6, h7, h8, by omega, by omega⟩
set_option maxHeartbeats 1000000 in
theorem vk_goes {d : Nat} {m0 : PM} {dy : List (Nat × Nat)} {L : Nat} {Q : Option PV → PS → Prop} (hd : 45 ≤ d) (hK0 : KT m0) (hn : 0 ≤ m0 53 1 ∧ m0 53 1 ≤ 100) (ht : ∀ i, 0 ≤ i → i < m0 53 1 → 0 ≤ m0 54 i ∧ m0 54 i ≤ 127) : ∀ (k : Nat) (m : PM) (a : Int) (CL : CLs), k < 10 → KG m0 m a CL → 0 ≤ a → a ≤ m0 53 1 → ((csF (m0 54) (m0 53 1) (k + 1) a CL).1 = true → ∀ m' : PM, KG m0 m' (csF (m0 54) (m0 53 1) (k + 1) a CL).2.1 (csF (m0 54) (m0 53 1) (k + 1) a CL).2.2 → Q (some (.inl 1)) (m', (none, (dy, L)))) → ((csF (m0 54) (m0 53 1) (k + 1) a CL).1 = false → ∀ m' : PM, KF m0 m' (csF (m0 54) (m0 53 1) (k + 1) a CL).2.1 → Q (some (.inl 0)) (m', (none, (dy, L)))) → V d 42 (35, ([some (.inr (.inr 53)), some (.inl (k : Int))], ([], (m, (none, (dy, L)))))) Q := by
  intro k
  induction k with
  | zero =>
    intro m a CL hk hG ha hal o1 o2
    have hK : KT m := by unfold KT; rw [hG.1.1 (-20) (by omega), hG.1.1 (-21) (by omega), hG.1.1 (-22) (by omega)]; exact hK0
    have e54 : m 54 = m0 54 := hG.1.2.1
    have e1 : m 53 1 = m0 53 1 := hG.1.2.2.1
    have e2 : m 53 2 = a := hG.1.2.2.2
    obtain ⟨n1, n2, n3⟩ := clF_in (m0 54) (n := m0 53 1) (a := a) hal
    rw [csF] at o1 o2
    refine v_iload_n (n := 36) xB_42 dX5_clauses_35 rfl rfl ?_
    refine v_if_lt_n (n := 39) xB_42 dX5_clauses_36 (by decide) rfl (by first | omega | (simp only [sA_same, sA_s, ud_s, Int.reduceEq, if_true, if_false, ite_true, ite_false, ↓reduceIte, and_true, true_and, eq_self, Int.add_zero, Int.reduceAdd]; omega) | (simp (disch := omega) only [sA_same, sA_ne, ud_eq, ud_ne, Int.add_zero, Int.reduceAdd]; omega)) ?_
    refine v_aload_n (n := 40) xB_42 dX5_clauses_39 rfl rfl ?_
    refine v_call_v (n := 43) xB_42 dX5_clauses_40 xO_42 iv_5_55 rfl (sh_53 _ _ _) rfl rfl rfl ?_
    refine k_clause (m0 := m0) (a := a) (CL := CL) (by omega) hK hG (by omega) (by omega) (by rw [e1, e54]; exact ht) (fun gC mA hT => ?_) (fun gC mA hz => ?_)
    · rw [e54, e1, e2] at gC hT
      obtain ⟨n4, n5, n6⟩ := n3 gC
      have gN : ¬ (clF (m0 54) (m0 53 1) a).1 = false := by rw [gC]; decide
      rw [if_neg gN] at o1 o2
      have f54 : mA 54 = m0 54 := hT.1.2.1
      have f1 : mA 53 1 = m0 53 1 := hT.1.2.2.1
      have f2 : mA 53 2 = (clF (m0 54) (m0 53 1) a).2.1 := hT.1.2.2.2
      refine v_if_ne_y (t := 48) xB_42 dX5_clauses_43 (by decide) rfl (by decide) ?_
      refine v_aload_n (n := 49) xB_42 dX5_clauses_48 rfl rfl ?_
      refine v_gf_i (n := 52) (kz := 2) xB_42 dX5_clauses_49 xO_42 fl_5_28 fg_5_2 rfl (sh_53 _ _ _) rfl rfl ?_
      refine v_aload_n (n := 53) xB_42 dX5_clauses_52 rfl rfl ?_
      refine v_gf_i (n := 56) (kz := 1) xB_42 dX5_clauses_53 xO_42 fl_5_59 fg_5_1 rfl (sh_53 _ _ _) rfl rfl ?_
      refine v_ic_lt (t := 61) (n := 59) xB_42 dX5_clauses_56 (by decide) rfl rfl (fun g1 => ?_) (fun g1 => ?_)
      · (try simp (disch := omega) only [sA_same, sA_ne, sA_sA, sA_sr, sB_s, ud_eq, ud_ne, ud_ud, ud_sr, uB_s, Int.add_zero, Int.reduceAdd] at g1)
        refine v_iload_n (n := 62) xB_42 dX5_clauses_61 rfl rfl ?_
        refine v_if_eq_y (t := 74) xB_42 dX5_clauses_62 (by decide) rfl (by first | omega | (simp only [sA_same, sA_s, ud_s, Int.reduceEq, if_true, if_false, ite_true, ite_false, ↓reduceIte, and_true, true_and, eq_self, Int.add_zero, Int.reduceAdd]; omega) | (simp (disch := omega) only [sA_same, sA_ne, ud_eq, ud_ne, Int.add_zero, Int.reduceAdd]; omega)) ?_
        refine v_iconst (n := 75) xB_42 dX5_clauses_74 ⟨by decide, by decide⟩ rfl ?_
        refine v_ireturn1 xB_42 dX5_clauses_75 xK_42 (by decide) ?_
        first
        | exact o2 rfl _ hz
        | (rw [if_pos (by omega)] at o1
           exact o1 rfl _ hT)
        | (rw [if_neg (by omega), if_pos (by omega)] at o2
           exact o2 rfl _ hT.1)
      · (try simp (disch := omega) only [sA_same, sA_ne, sA_sA, sA_sr, sB_s, ud_eq, ud_ne, ud_ud, ud_sr, uB_s, Int.add_zero, Int.reduceAdd] at g1)
        refine v_iconst (n := 60) xB_42 dX5_clauses_59 ⟨by decide, by decide⟩ rfl ?_
        refine v_ireturn1 xB_42 dX5_clauses_60 xK_42 (by decide) ?_
        first
        | exact o2 rfl _ hz
        | (rw [if_pos (by omega)] at o1
           exact o1 rfl _ hT)
        | (rw [if_neg (by omega), if_pos (by omega)] at o2
           exact o2 rfl _ hT.1)
    · rw [e54, e1, e2] at gC hz
      rw [if_pos gC] at o1 o2
      refine v_if_ne_n (n := 46) xB_42 dX5_clauses_43 (by decide) rfl (by decide) ?_
      refine v_iconst (n := 47) xB_42 dX5_clauses_46 ⟨by decide, by decide⟩ rfl ?_
      refine v_ireturn1 xB_42 dX5_clauses_47 xK_42 (by decide) ?_
      first
      | exact o2 rfl _ hz
      | (rw [if_pos (by omega)] at o1
         exact o1 rfl _ hT)
      | (rw [if_neg (by omega), if_pos (by omega)] at o2
         exact o2 rfl _ hT.1)
  | succ k ih =>
    intro m a CL hk hG ha hal o1 o2
    have hK : KT m := by unfold KT; rw [hG.1.1 (-20) (by omega), hG.1.1 (-21) (by omega), hG.1.1 (-22) (by omega)]; exact hK0
    have e54 : m 54 = m0 54 := hG.1.2.1
    have e1 : m 53 1 = m0 53 1 := hG.1.2.2.1
    have e2 : m 53 2 = a := hG.1.2.2.2
    obtain ⟨n1, n2, n3⟩ := clF_in (m0 54) (n := m0 53 1) (a := a) hal
    rw [csF] at o1 o2
    refine v_iload_n (n := 36) xB_42 dX5_clauses_35 rfl rfl ?_
    refine v_if_lt_n (n := 39) xB_42 dX5_clauses_36 (by decide) rfl (by first | omega | (simp only [sA_same, sA_s, ud_s, Int.reduceEq, if_true, if_false, ite_true, ite_false, ↓reduceIte, and_true, true_and, eq_self, Int.add_zero, Int.reduceAdd]; omega) | (simp (disch := omega) only [sA_same, sA_ne, ud_eq, ud_ne, Int.add_zero, Int.reduceAdd]; omega)) ?_
    refine v_aload_n (n := 40) xB_42 dX5_clauses_39 rfl rfl ?_
    refine v_call_v (n := 43) xB_42 dX5_clauses_40 xO_42 iv_5_55 rfl (sh_53 _ _ _) rfl rfl rfl ?_
    refine k_clause (m0 := m0) (a := a) (CL := CL) (by omega) hK hG (by omega) (by omega) (by rw [e1, e54]; exact ht) (fun gC mA hT => ?_) (fun gC mA hz => ?_)
    · rw [e54, e1, e2] at gC hT
      obtain ⟨n4, n5, n6⟩ := n3 gC
      have gN : ¬ (clF (m0 54) (m0 53 1) a).1 = false := by rw [gC]; decide
      rw [if_neg gN] at o1 o2
      have f54 : mA 54 = m0 54 := hT.1.2.1
      have f1 : mA 53 1 = m0 53 1 := hT.1.2.2.1
      have f2 : mA 53 2 = (clF (m0 54) (m0 53 1) a).2.1 := hT.1.2.2.2
      refine v_if_ne_y (t := 48) xB_42 dX5_clauses_43 (by decide) rfl (by decide) ?_
      refine v_aload_n (n := 49) xB_42 dX5_clauses_48 rfl rfl ?_
      refine v_gf_i (n := 52) (kz := 2) xB_42 dX5_clauses_49 xO_42 fl_5_28 fg_5_2 rfl (sh_53 _ _ _) rfl rfl ?_
      refine v_aload_n (n := 53) xB_42 dX5_clauses_52 rfl rfl ?_
      refine v_gf_i (n := 56) (kz := 1) xB_42 dX5_clauses_53 xO_42 fl_5_59 fg_5_1 rfl (sh_53 _ _ _) rfl rfl ?_
      refine v_ic_lt (t := 61) (n := 59) xB_42 dX5_clauses_56 (by decide) rfl rfl (fun g1 => ?_) (fun g1 => ?_)
      · (try simp (disch := omega) only [sA_same, sA_ne, sA_sA, sA_sr, sB_s, ud_eq, ud_ne, ud_ud, ud_sr, uB_s, Int.add_zero, Int.reduceAdd] at g1)
        refine v_iload_n (n := 62) xB_42 dX5_clauses_61 rfl rfl ?_
        refine v_if_eq_n (n := 65) xB_42 dX5_clauses_62 (by decide) rfl (by first | omega | (simp only [sA_same, sA_s, ud_s, Int.reduceEq, if_true, if_false, ite_true, ite_false, ↓reduceIte, and_true, true_and, eq_self, Int.add_zero, Int.reduceAdd]; omega) | (simp (disch := omega) only [sA_same, sA_ne, ud_eq, ud_ne, Int.add_zero, Int.reduceAdd]; omega)) ?_
        refine v_aload_n (n := 66) xB_42 dX5_clauses_65 rfl rfl ?_
        refine v_call_v (n := 69) xB_42 dX5_clauses_66 xO_42 iv_5_60 rfl (sh_53 _ _ _) rfl rfl rfl ?_
        refine k_sign (by omega) ⟨by omega, by omega⟩ ?_
        rw [f54, f1, f2]
        refine v_bipush (n := 71) xB_42 dX5_clauses_69 ⟨by decide, by decide⟩ rfl ?_
        refine v_ic_eq (t := 76) (n := 74) xB_42 dX5_clauses_71 (by decide) rfl rfl (fun g2 => ?_) (fun g2 => ?_)
        · (try simp (disch := omega) only [sA_same, sA_ne, sA_sA, sA_sr, sB_s, ud_eq, ud_ne, ud_ud, ud_sr, uB_s, Int.add_zero, Int.reduceAdd] at g2)
          refine v_aload_n (n := 77) xB_42 dX5_clauses_76 rfl rfl ?_
          refine v_dup (n := 78) xB_42 dX5_clauses_77 rfl rfl ?_
          refine v_gf_i (n := 81) (kz := 2) xB_42 dX5_clauses_78 xO_42 fl_5_28 fg_5_2 rfl (sh_53 _ _ _) rfl rfl ?_
          refine v_iconst (n := 82) xB_42 dX5_clauses_81 ⟨by decide, by decide⟩ rfl ?_
          refine v_iadd (n := 83) xB_42 dX5_clauses_82 (by first | omega | (simp only [sA_same, sA_s, ud_s, Int.reduceEq, if_true, if_false, ite_true, ite_false, ↓reduceIte, and_true, true_and, eq_self, Int.add_zero, Int.reduceAdd]; omega) | (simp (disch := omega) only [sA_same, sA_ne, ud_eq, ud_ne, Int.add_zero, Int.reduceAdd]; omega)) rfl ?_
          refine v_pf_i (n := 86) (kz := 2) xB_42 dX5_clauses_83 xO_42 fl_5_28 fg_5_2 (Or.inl fn_5_2) (sh_53 _ _ _) (by decide) rfl rfl ?_
          (try simp (disch := omega) only [sA_same, sA_ne, sA_sA, sA_sr, sB_s, ud_eq, ud_ne, ud_ud, ud_sr, uB_s, Int.add_zero, Int.reduceAdd])
          refine v_iinc1 (n := 89) xB_42 dX5_clauses_86 rfl (by first | omega | (simp only [sA_same, sA_s, ud_s, Int.reduceEq, if_true, if_false, ite_true, ite_false, ↓reduceIte, and_true, true_and, eq_self, Int.add_zero, Int.reduceAdd]; omega) | (simp (disch := omega) only [sA_same, sA_ne, ud_eq, ud_ne, Int.add_zero, Int.reduceAdd]; omega)) rfl ?_
          refine v_goto (t := 35) xB_42 dX5_clauses_89 (by decide) rfl ?_
          rw [if_neg (by omega), if_neg (fun q => by rcases q with q | q; omega; exact q (by assumption))] at o1 o2
          have hin := nxt_in (T := m0 54) (n := m0 53 1) (a := (clF (m0 54) (m0 53 1) a).2.1) (by assumption) (by omega)
          rw [show (((k + 1 : Nat) : Int) + -1) = (k : Int) by omega]
          exact ih _ _ (CL ++ [(clF (m0 54) (m0 53 1) a).2.2]) (by omega) (KG_at hT (by rw [f2])) (by omega) (by omega) o1 o2
        · (try simp (disch := omega) only [sA_same, sA_ne, sA_sA, sA_sr, sB_s, ud_eq, ud_ne, ud_ud, ud_sr, uB_s, Int.add_zero, Int.reduceAdd] at g2)
          refine v_iconst (n := 75) xB_42 dX5_clauses_74 ⟨by decide, by decide⟩ rfl ?_
          refine v_ireturn1 xB_42 dX5_clauses_75 xK_42 (by decide) ?_
          first
          | exact o2 rfl _ hz
          | (rw [if_pos (by omega)] at o1
             exact o1 rfl _ hT)
          | (rw [if_neg (by omega), if_pos (by omega)] at o2
             exact o2 rfl _ hT.1)
          | (rw [if_neg (by omega), if_pos (Or.inr (by assumption))] at o2
             exact o2 rfl _ hT.1)
      · (try simp (disch := omega) only [sA_same, sA_ne, sA_sA, sA_sr, sB_s, ud_eq, ud_ne, ud_ud, ud_sr, uB_s, Int.add_zero, Int.reduceAdd] at g1)
        refine v_iconst (n := 60) xB_42 dX5_clauses_59 ⟨by decide, by decide⟩ rfl ?_
        refine v_ireturn1 xB_42 dX5_clauses_60 xK_42 (by decide) ?_
        first
        | exact o2 rfl _ hz
        | (rw [if_pos (by omega)] at o1
           exact o1 rfl _ hT)
        | (rw [if_neg (by omega), if_pos (by omega)] at o2
           exact o2 rfl _ hT.1)
        | (rw [if_neg (by omega), if_pos (Or.inr (by assumption))] at o2
           exact o2 rfl _ hT.1)
    · rw [e54, e1, e2] at gC hz
      rw [if_pos gC] at o1 o2
      refine v_if_ne_n (n := 46) xB_42 dX5_clauses_43 (by decide) rfl (by decide) ?_
      refine v_iconst (n := 47) xB_42 dX5_clauses_46 ⟨by decide, by decide⟩ rfl ?_
      refine v_ireturn1 xB_42 dX5_clauses_47 xK_42 (by decide) ?_
      first
      | exact o2 rfl _ hz
      | (rw [if_pos (by omega)] at o1
         exact o1 rfl _ hT)
      | (rw [if_neg (by omega), if_pos (by omega)] at o2
         exact o2 rfl _ hT.1)
      | (rw [if_neg (by omega), if_pos (Or.inr (by assumption))] at o2
         exact o2 rfl _ hT.1)
set_option maxHeartbeats 1000000 in
theorem k_clauses {d : Nat}  {m : PM} {dy : List (Nat × Nat)} {L : Nat} {Q : Option PV → PS → Prop} (hd : 46 ≤ d) (hK : KT m) (hn : 0 ≤ m 53 1 ∧ m 53 1 ≤ 100) (ht : ∀ i, 0 ≤ i → i < m 53 1 → 0 ≤ m 54 i ∧ m 54 i ≤ 127) (o1 : (csF (m 54) (m 53 1) 10 0 []).1 = true → ∀ m' : PM, KG m m' (csF (m 54) (m 53 1) 10 0 []).2.1 (csF (m 54) (m 53 1) 10 0 []).2.2 → Q (some (.inl 1)) (m', (none, (dy, L)))) (o2 : (csF (m 54) (m 53 1) 10 0 []).1 = false → ∀ m' : PM, KF m m' (csF (m 54) (m 53 1) 10 0 []).2.1 → Q (some (.inl 0)) (m', (none, (dy, L)))) : C d 42 [.inr (.inr 53)] (m, (none, (dy, L))) Q := by
  refine C_go (k := 45) hd xL_42 (fun d hd => ?_)
  show V d 42 (0, ([some (.inr (.inr 53)), none], ([], (m, (none, (dy, L)))))) Q
  refine v_aload_n (n := 1) xB_42 dX5_clauses_0 rfl rfl ?_
  refine v_iconst (n := 2) xB_42 dX5_clauses_1 ⟨by decide, by decide⟩ rfl ?_
  refine v_pf_i (n := 5) (kz := 2) xB_42 dX5_clauses_2 xO_42 fl_5_28 fg_5_2 (Or.inl fn_5_2) (sh_53 _ _ _) (by decide) rfl rfl ?_
  (try simp (disch := omega) only [sA_same, sA_ne, sA_sA, sA_sr, sB_s, ud_eq, ud_ne, ud_ud, ud_sr, uB_s, Int.add_zero, Int.reduceAdd])
  refine v_aload_n (n := 6) xB_42 dX5_clauses_5 rfl rfl ?_
  refine v_iconst (n := 7) xB_42 dX5_clauses_6 ⟨by decide, by decide⟩ rfl ?_
  refine v_pf_i (n := 10) (kz := 3) xB_42 dX5_clauses_7 xO_42 fl_5_34 fg_5_3 (Or.inl fn_5_3) (sh_53 _ _ _) (by decide) rfl rfl ?_
  (try simp (disch := omega) only [sA_same, sA_ne, sA_sA, sA_sr, sB_s, ud_eq, ud_ne, ud_ud, ud_sr, uB_s, Int.add_zero, Int.reduceAdd])
  refine v_aload_n (n := 11) xB_42 dX5_clauses_10 rfl rfl ?_
  refine v_bipush (n := 13) xB_42 dX5_clauses_11 ⟨by decide, by decide⟩ rfl ?_
  refine v_pf_i (n := 16) (kz := 4) xB_42 dX5_clauses_13 xO_42 fl_5_37 fg_5_4 (Or.inl fn_5_4) (sh_53 _ _ _) (by decide) rfl rfl ?_
  (try simp (disch := omega) only [sA_same, sA_ne, sA_sA, sA_sr, sB_s, ud_eq, ud_ne, ud_ud, ud_sr, uB_s, Int.add_zero, Int.reduceAdd])
  refine v_aload_n (n := 17) xB_42 dX5_clauses_16 rfl rfl ?_
  refine v_gf_s (n := 20) (kz := 5) xB_42 dX5_clauses_17 xO_42 fl_5_18 fg_5_5 (sh_53 _ _ _) rfl st_53_5 rfl ?_
  refine v_iconst (n := 21) xB_42 dX5_clauses_20 ⟨by decide, by decide⟩ rfl ?_
  refine v_pf_i (n := 24) (kz := 1) xB_42 dX5_clauses_21 xO_42 fl_5_43 fg_7_1 (Or.inl fn_7_1) (sh_55 _ _ _) (by decide) rfl rfl ?_
  (try simp (disch := omega) only [sA_same, sA_ne, sA_sA, sA_sr, sB_s, ud_eq, ud_ne, ud_ud, ud_sr, uB_s, Int.add_zero, Int.reduceAdd])
  refine v_aload_n (n := 25) xB_42 dX5_clauses_24 rfl rfl ?_
  refine v_gf_s (n := 28) (kz := 6) xB_42 dX5_clauses_25 xO_42 fl_5_22 fg_5_6 (sh_53 _ _ _) rfl st_53_6 rfl ?_
  refine v_iconst (n := 29) xB_42 dX5_clauses_28 ⟨by decide, by decide⟩ rfl ?_
  refine v_pf_i (n := 32) (kz := 1) xB_42 dX5_clauses_29 xO_42 fl_5_43 fg_7_1 (Or.inl fn_7_1) (sh_57 _ _ _) (by decide) rfl rfl ?_
  (try simp (disch := omega) only [sA_same, sA_ne, sA_sA, sA_sr, sB_s, ud_eq, ud_ne, ud_ud, ud_sr, uB_s, Int.add_zero, Int.reduceAdd])
  refine v_bipush (n := 34) xB_42 dX5_clauses_32 ⟨by decide, by decide⟩ rfl ?_
  refine v_istore_n1 (n := 35) xB_42 dX5_clauses_34 rfl rfl ?_
  (try simp (disch := omega) only [sA_same, sA_ne, sA_sA, sA_sr, sB_s, ud_eq, ud_ne, ud_ud, ud_sr, uB_s, Int.add_zero, Int.reduceAdd])
  have h0 : KG m (setA (setA (setA m 53 (ud (ud (ud (m 53) 2 0) 3 1) 4 24)) 55 (ud (m 55) 1 0)) 57 (ud (m 57) 1 0)) 0 [] := by
    unfold KG KF
    simp (disch := omega) only [sA_ne, sA_same, ud_eq, ud_ne]
    refine ⟨⟨fun x p => by rw [sA_ne (by omega), sA_ne (by omega), sA_ne (by omega)], trivial, trivial, trivial⟩, rfl, rfl, ⟨rfl, trivial⟩, ⟨rfl, trivial⟩, Int.le_refl 0, Int.le_refl 0⟩
  exact vk_goes (by omega) hK hn ht 9 _ 0 [] (by omega) h0 (Int.le_refl 0) (by omega) o1 o2
theorem v_new {d μ pc n : Nat} {B : ByteArray} {ls : PL} {st : List PV} {m : PM} {dy : List (Nat × Nat)} {L : Nat} {Q : Option PV → PS → Prop} {idx ow ci : Nat} (hb : mB μ = B) (hd : ClassFile.decode B pc = .ok (.new idx, 3)) (ho : mO μ = ow) (hi : nwc ow idx = some ci) (hc : Nat.blt ci 12 = true) (hn : pc + 3 = n) (h : V d μ (n, (ls, (.inr (.inr ((129 + dy.length : Nat) : Int)) :: st, (setA m ((129 + dy.length : Nat) : Int) (fun k => if 0 ≤ k ∧ ftg ci k.toNat = 2 then -1 else 0), (none, (dy ++ [(0, ci)], L)))))) Q) : V d μ (pc, (ls, (st, (m, (none, (dy, L)))))) Q := by
  subst hn
  refine V_dec hb hd ?_
  rw [sI_new, SP_gd, ho, hi]
  refine ⟨rfl, ?_⟩
  show SP (gd (ci < 12) _) _ _ _
  rw [SP_gd]
  refine ⟨Nat.le_of_ble_eq_true hc, ?_⟩
  exact h
theorem v_newint {d μ pc n : Nat} {B : ByteArray} {ls : PL} {st : List PV} {m : PM} {dy : List (Nat × Nat)} {L : Nat} {Q : Option PV → PS → Prop} {z : Int} (hb : mB μ = B) (hd : ClassFile.decode B pc = .ok (.newarray .int, 2)) (hz : 0 ≤ z ∧ z ≤ 1000) (hn : pc + 2 = n) (h : V d μ (n, (ls, (.inr (.inr ((129 + dy.length : Nat) : Int)) :: st, (setA m ((129 + dy.length : Nat) : Int) (fun _ => 0), (none, (dy ++ [(1, z.toNat)], L)))))) Q) : V d μ (pc, (ls, (.inl z :: st, (m, (none, (dy, L)))))) Q := by
  subst hn
  refine V_dec hb hd ?_
  rw [sI_newarray, SP_gd, i1_s, SP_gd]
  refine ⟨rfl, ⟨hz.1, hz.2, by decide⟩, ?_⟩
  exact h
theorem dyS_at {dy : List (Nat × Nat)} {x : Nat × Nat} : dyS (dy ++ [x]) ((129 + dy.length : Nat) : Int) = x := by
  unfold dyS
  rw [show (((129 + dy.length : Nat) : Int)).toNat - NB = dy.length by unfold NB; omega]
  rw [List.getD_eq_getElem?_getD, List.getElem?_append_right (Nat.le_refl _), Nat.sub_self]
  rfl
theorem dyS_ap {dy : List (Nat × Nat)} {x : Nat × Nat} {o : Int} {s : Nat × Nat} (h : dyS dy o = s) (hs : s ≠ (99, 0)) : dyS (dy ++ [x]) o = s := by
  unfold dyS at *
  rw [List.getD_eq_getElem?_getD] at *
  by_cases hl : o.toNat - NB < dy.length
  · rw [List.getElem?_append_left hl]; exact h
  · rw [List.getElem?_eq_none (by omega)] at h
    exact absurd h.symm hs
theorem dyS_lt {dy : List (Nat × Nat)} {o : Int} {s : Nat × Nat} (h : dyS dy o = s) (hs : s ≠ (99, 0)) (h0 : 129 ≤ o) : o < ((129 + dy.length : Nat) : Int) := by
  unfold dyS at h
  rw [List.getD_eq_getElem?_getD] at h
  by_cases hl : o.toNat - NB < dy.length
  · unfold NB at hl; omega
  · rw [List.getElem?_eq_none (by omega)] at h
    exact absurd h.symm hs
