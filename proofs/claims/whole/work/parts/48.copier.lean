/-! The class: a copier. -/
def JC (m : PM) (dy : List (Nat × Nat)) (o : Int) (CL : CLs) : Prop :=
  (129 ≤ o ∧ dyS dy o = (0, 2) ∧ m o 0 = frW CL ∧ m o 1 = tlW CL) ∧ (129 ≤ m o 2 ∧ dyS dy (m o 2) = (1, (stW CL 2).length) ∧ LA (m (m o 2)) 0 (stW CL 2) ∧ (stW CL 2).length ≤ 1000) ∧ (129 ≤ m o 3 ∧ dyS dy (m o 3) = (1, (stW CL 3).length) ∧ LA (m (m o 3)) 0 (stW CL 3) ∧ (stW CL 3).length ≤ 1000) ∧ okCL CL
theorem JC_fr {m m' : PM} (h : ∀ a : Int, 129 ≤ a → m' a = m a) (dy : List (Nat × Nat)) (o : Int) (CL : CLs) (hJ : JC m dy o CL) : JC m' dy o CL := by
  obtain ⟨⟨h1, h2, h3, h4⟩, ⟨h5, h6, h7, h8⟩, ⟨h9, h10, h11, h12⟩, h13⟩ := hJ
  unfold JC
  rw [h o h1, h _ h5, h _ h9]
  exact ⟨⟨h1, h2, h3, h4⟩, ⟨h5, h6, h7, h8⟩, ⟨h9, h10, h11, h12⟩, h13⟩
def pfF (tl p : Int) : Int := if p ≤ tl then p else tl + 1
theorem vk_pageFrom {d : Nat} {o p0 kd v n : Int} {m : PM} {dy : List (Nat × Nat)} {L : Nat} {Q : Option PV → PS → Prop} {CL : CLs} (hd : 2 ≤ d) (hJ : JC m dy o CL) : ∀ (K : Nat) (p : Int), 0 ≤ p → tlW CL < p + K → p ≤ 1000 → Q (some (.inl (pfF (tlW CL) (npF (fun x => anyW CL 2 x kd v n) (tlW CL) K p)))) (m, (none, (dy, L))) → V d 15 (3, ([some (.inr (.inr o)), some (.inl p0), some (.inl kd), some (.inl v), some (.inl n), some (.inl (p))], ([], (m, (none, (dy, L)))))) Q := by
  intro K
  have ho : 129 ≤ o := hJ.1.1
  have htl := tlW_in hJ.2.2.2
  have htm : m o 1 = tlW CL := hJ.1.2.2.2
  induction K with
  | zero =>
    intro p h0 hK h9 o1
    rw [npF_stop (by omega)] at o1
    unfold pfF at o1
    rw [if_neg (by omega), ← htm] at o1
    refine v_iload (n := 5) xB_15 dX2_pageFrom_3 rfl rfl ?_
    refine v_aload_n (n := 6) xB_15 dX2_pageFrom_5 rfl rfl ?_
    refine v_gf_i (n := 9) (kz := 1) xB_15 dX2_pageFrom_6 xO_15 fl_2_15 fg_2_1 rfl (sh_dyn' (by omega) hJ.1.2.1 _ _) rfl rfl ?_
    refine v_ic_gt_y (t := 37) xB_15 dX2_pageFrom_9 (by decide) rfl (by first | omega | (simp only [sA_same, sA_s, ud_s, Int.reduceEq, if_true, if_false, ite_true, ite_false, ↓reduceIte, and_true, true_and, eq_self, Int.add_zero, Int.reduceAdd]; omega) | (simp (disch := omega) only [sA_same, sA_ne, ud_eq, ud_ne, Int.add_zero, Int.reduceAdd]; omega)) ?_
    refine v_aload_n (n := 38) xB_15 dX2_pageFrom_37 rfl rfl ?_
    refine v_gf_i (n := 41) (kz := 1) xB_15 dX2_pageFrom_38 xO_15 fl_2_15 fg_2_1 rfl (sh_dyn' (by omega) hJ.1.2.1 _ _) rfl rfl ?_
    refine v_iconst (n := 42) xB_15 dX2_pageFrom_41 ⟨by decide, by decide⟩ rfl ?_
    refine v_iadd (n := 43) xB_15 dX2_pageFrom_42 (by first | omega | (simp only [sA_same, sA_s, ud_s, Int.reduceEq, if_true, if_false, ite_true, ite_false, ↓reduceIte, and_true, true_and, eq_self, Int.add_zero, Int.reduceAdd]; omega) | (simp (disch := omega) only [sA_same, sA_ne, ud_eq, ud_ne, Int.add_zero, Int.reduceAdd]; omega)) rfl ?_
    refine v_ireturn0 xB_15 dX2_pageFrom_43 xK_15 ?_
    exact o1
  | succ K ih =>
    intro p h0 hK h9 o1
    rw [npF] at o1
    by_cases hle : p ≤ tlW CL
    ·
      skip
      refine v_iload (n := 5) xB_15 dX2_pageFrom_3 rfl rfl ?_
      refine v_aload_n (n := 6) xB_15 dX2_pageFrom_5 rfl rfl ?_
      refine v_gf_i (n := 9) (kz := 1) xB_15 dX2_pageFrom_6 xO_15 fl_2_15 fg_2_1 rfl (sh_dyn' (by omega) hJ.1.2.1 _ _) rfl rfl ?_
      refine v_ic_gt_n (n := 12) xB_15 dX2_pageFrom_9 (by decide) rfl (by first | omega | (simp only [sA_same, sA_s, ud_s, Int.reduceEq, if_true, if_false, ite_true, ite_false, ↓reduceIte, and_true, true_and, eq_self, Int.add_zero, Int.reduceAdd]; omega) | (simp (disch := omega) only [sA_same, sA_ne, ud_eq, ud_ne, Int.add_zero, Int.reduceAdd]; omega)) ?_
      refine v_aload_n (n := 13) xB_15 dX2_pageFrom_12 rfl rfl ?_
      refine v_gf_d (n := 16) (kz := 2) xB_15 dX2_pageFrom_13 xO_15 fl_2_18 fg_2_2 (sh_dyn' (by omega) hJ.1.2.1 _ _) rfl (st_dyn _ (by omega)) rfl ?_
      refine v_iload (n := 18) xB_15 dX2_pageFrom_16 rfl rfl ?_
      refine v_iload_n (n := 19) xB_15 dX2_pageFrom_18 rfl rfl ?_
      refine v_iload_n (n := 20) xB_15 dX2_pageFrom_19 rfl rfl ?_
      refine v_iload (n := 22) xB_15 dX2_pageFrom_20 rfl rfl ?_
      refine v_call_s (n := 25) xB_15 dX2_pageFrom_22 xO_15 sp_2_25 (Or.inl rfl) iv_2_25 rfl rfl rfl rfl ?_
      refine k_holds (by omega) hJ.2.1.1 hJ.2.1.2.1 (by first | omega | (simp only [sA_same, sA_s, ud_s, Int.reduceEq, if_true, if_false, ite_true, ite_false, ↓reduceIte, and_true, true_and, eq_self, Int.add_zero, Int.reduceAdd]; omega) | (simp (disch := omega) only [sA_same, sA_ne, ud_eq, ud_ne, Int.add_zero, Int.reduceAdd]; omega)) hJ.2.1.2.2.2 hJ.2.1.2.2.1 (hg_stW hJ.2.2.2 2 (by omega)) (fun gH => ?_) (fun gH => ?_)
      · refine v_if_ne_y (t := 31) xB_15 dX2_pageFrom_25 (by decide) rfl (by decide) ?_
        refine v_iinc5 (n := 34) xB_15 dX2_pageFrom_31 rfl (by first | omega | (simp only [sA_same, sA_s, ud_s, Int.reduceEq, if_true, if_false, ite_true, ite_false, ↓reduceIte, and_true, true_and, eq_self, Int.add_zero, Int.reduceAdd]; omega) | (simp (disch := omega) only [sA_same, sA_ne, ud_eq, ud_ne, Int.add_zero, Int.reduceAdd]; omega)) rfl ?_
        refine v_goto (t := 3) xB_15 dX2_pageFrom_34 (by decide) rfl ?_
        rw [vS_stW hJ.2.2.2 2 (by omega)] at gH
        rw [if_pos ⟨hle, gH⟩] at o1
        exact ih _ (by omega) (by omega) (by omega) o1
      · refine v_if_ne_n (n := 28) xB_15 dX2_pageFrom_25 (by decide) rfl (by decide) ?_
        refine v_iload (n := 30) xB_15 dX2_pageFrom_28 rfl rfl ?_
        refine v_ireturn0 xB_15 dX2_pageFrom_30 xK_15 ?_
        rw [vS_stW hJ.2.2.2 2 (by omega)] at gH
        rw [if_neg (fun e => by have e2 := e.2; rw [gH] at e2; cases e2)] at o1
        unfold pfF at o1
        rw [if_pos hle] at o1
        exact o1
    ·
      rw [if_neg (fun e => hle e.1)] at o1
      unfold pfF at o1
      rw [if_neg hle, ← htm] at o1
      refine v_iload (n := 5) xB_15 dX2_pageFrom_3 rfl rfl ?_
      refine v_aload_n (n := 6) xB_15 dX2_pageFrom_5 rfl rfl ?_
      refine v_gf_i (n := 9) (kz := 1) xB_15 dX2_pageFrom_6 xO_15 fl_2_15 fg_2_1 rfl (sh_dyn' (by omega) hJ.1.2.1 _ _) rfl rfl ?_
      refine v_ic_gt_y (t := 37) xB_15 dX2_pageFrom_9 (by decide) rfl (by first | omega | (simp only [sA_same, sA_s, ud_s, Int.reduceEq, if_true, if_false, ite_true, ite_false, ↓reduceIte, and_true, true_and, eq_self, Int.add_zero, Int.reduceAdd]; omega) | (simp (disch := omega) only [sA_same, sA_ne, ud_eq, ud_ne, Int.add_zero, Int.reduceAdd]; omega)) ?_
      refine v_aload_n (n := 38) xB_15 dX2_pageFrom_37 rfl rfl ?_
      refine v_gf_i (n := 41) (kz := 1) xB_15 dX2_pageFrom_38 xO_15 fl_2_15 fg_2_1 rfl (sh_dyn' (by omega) hJ.1.2.1 _ _) rfl rfl ?_
      refine v_iconst (n := 42) xB_15 dX2_pageFrom_41 ⟨by decide, by decide⟩ rfl ?_
      refine v_iadd (n := 43) xB_15 dX2_pageFrom_42 (by first | omega | (simp only [sA_same, sA_s, ud_s, Int.reduceEq, if_true, if_false, ite_true, ite_false, ↓reduceIte, and_true, true_and, eq_self, Int.add_zero, Int.reduceAdd]; omega) | (simp (disch := omega) only [sA_same, sA_ne, ud_eq, ud_ne, Int.add_zero, Int.reduceAdd]; omega)) rfl ?_
      refine v_ireturn0 xB_15 dX2_pageFrom_43 xK_15 ?_
      exact o1
set_option maxHeartbeats 1000000 in
theorem k_pageFrom {d : Nat} {o p kd v n : Int} {CL : CLs} {m : PM} {dy : List (Nat × Nat)} {L : Nat} {Q : Option PV → PS → Prop} (hd : 3 ≤ d) (hJ : JC m dy o CL) (hp0 : 0 ≤ p ∧ p ≤ 1000) (o1 : Q (some (.inl (pfF (tlW CL) (nxF kd v n CL p)))) (m, (none, (dy, L)))) : C d 15 [.inr (.inr o), .inl p, .inl kd, .inl v, .inl n] (m, (none, (dy, L))) Q := by
  refine C_go (k := 2) hd xL_15 (fun d hd => ?_)
  show V d 15 (0, ([some (.inr (.inr o)), some (.inl p), some (.inl kd), some (.inl v), some (.inl n), none], ([], (m, (none, (dy, L)))))) Q
  refine v_iload_n (n := 1) xB_15 dX2_pageFrom_0 rfl rfl ?_
  refine v_istore5 (n := 3) xB_15 dX2_pageFrom_1 rfl rfl ?_
  refine vk_pageFrom (by omega) hJ 30 p (by omega) (by have := tlW_in hJ.2.2.2; omega) (by omega) o1
set_option maxHeartbeats 1000000 in
theorem k_isDry {d : Nat} {k v n : Int} {σ : PS} {Q : Option PV → PS → Prop} (hd : 1 ≤ d) (hv : 0 ≤ v ∧ v ≤ 9) (hn : 0 ≤ n ∧ n ≤ 100) (o1 : (dryF k v n = true) → Q (some (.inl 1)) σ) (o2 : (dryF k v n = false) → Q (some (.inl 0)) σ) : C d 10 [.inl k, .inl v, .inl n] σ Q := by
  refine C_go (k := 0) hd xL_10 (fun d hd => ?_)
  show V d 10 (0, ([some (.inl k), some (.inl v), some (.inl n)], ([], σ))) Q
  refine v_iload_n (n := 1) xB_10 dX1_isDry_0 rfl rfl ?_
  refine v_iconst (n := 2) xB_10 dX1_isDry_1 ⟨by decide, by decide⟩ rfl ?_
  refine v_ic_eq (t := 11) (n := 5) xB_10 dX1_isDry_2 (by decide) rfl rfl (fun g1 => ?_) (fun g1 => ?_)
  · refine v_iload_n (n := 12) xB_10 dX1_isDry_11 rfl rfl ?_
    refine v_if_lt (t := 29) (n := 15) xB_10 dX1_isDry_12 (by decide) rfl rfl (fun g2 => ?_) (fun g2 => ?_)
    · refine v_iconst (n := 30) xB_10 dX1_isDry_29 ⟨by decide, by decide⟩ rfl ?_
      refine v_ireturn1 xB_10 dX1_isDry_30 xK_10 (by decide) ?_
      unfold dryF at o1 o2
      first | exact o1 (decide_eq_true (by omega)) | exact o2 (decide_eq_false (by omega))
    · refine v_iload_n (n := 16) xB_10 dX1_isDry_15 rfl rfl ?_
      refine v_iconst (n := 17) xB_10 dX1_isDry_16 ⟨by decide, by decide⟩ rfl ?_
      refine v_iadd (n := 18) xB_10 dX1_isDry_17 (by first | omega | (simp only [sA_same, sA_s, ud_s, Int.reduceEq, if_true, if_false, ite_true, ite_false, ↓reduceIte, and_true, true_and, eq_self, Int.add_zero, Int.reduceAdd]; omega) | (simp (disch := omega) only [sA_same, sA_ne, ud_eq, ud_ne, Int.add_zero, Int.reduceAdd]; omega)) rfl ?_
      refine v_iload_n (n := 19) xB_10 dX1_isDry_18 rfl rfl ?_
      refine v_iconst (n := 20) xB_10 dX1_isDry_19 ⟨by decide, by decide⟩ rfl ?_
      refine v_iadd (n := 21) xB_10 dX1_isDry_20 (by first | omega | (simp only [sA_same, sA_s, ud_s, Int.reduceEq, if_true, if_false, ite_true, ite_false, ↓reduceIte, and_true, true_and, eq_self, Int.add_zero, Int.reduceAdd]; omega) | (simp (disch := omega) only [sA_same, sA_ne, ud_eq, ud_ne, Int.add_zero, Int.reduceAdd]; omega)) rfl ?_
      refine v_irem (n := 22) xB_10 dX1_isDry_21 (by first | omega | (simp only [sA_same, sA_s, ud_s, Int.reduceEq, if_true, if_false, ite_true, ite_false, ↓reduceIte, and_true, true_and, eq_self, Int.add_zero, Int.reduceAdd]; omega) | (simp (disch := omega) only [sA_same, sA_ne, ud_eq, ud_ne, Int.add_zero, Int.reduceAdd]; omega)) rfl ?_
      refine v_if_ne (t := 29) (n := 25) xB_10 dX1_isDry_22 (by decide) rfl rfl (fun g3 => ?_) (fun g3 => ?_)
      · refine v_iconst (n := 30) xB_10 dX1_isDry_29 ⟨by decide, by decide⟩ rfl ?_
        refine v_ireturn1 xB_10 dX1_isDry_30 xK_10 (by decide) ?_
        unfold dryF at o1 o2
        first | exact o1 (decide_eq_true (by omega)) | exact o2 (decide_eq_false (by omega))
      · refine v_iconst (n := 26) xB_10 dX1_isDry_25 ⟨by decide, by decide⟩ rfl ?_
        refine v_goto (t := 30) xB_10 dX1_isDry_26 (by decide) rfl ?_
        refine v_ireturn1 xB_10 dX1_isDry_30 xK_10 (by decide) ?_
        unfold dryF at o1 o2
        first | exact o1 (decide_eq_true (by omega)) | exact o2 (decide_eq_false (by omega))
  · refine v_iload_n (n := 6) xB_10 dX1_isDry_5 rfl rfl ?_
    refine v_bipush (n := 8) xB_10 dX1_isDry_6 ⟨by decide, by decide⟩ rfl ?_
    refine v_ic_ne (t := 29) (n := 11) xB_10 dX1_isDry_8 (by decide) rfl rfl (fun g4 => ?_) (fun g4 => ?_)
    · refine v_iconst (n := 30) xB_10 dX1_isDry_29 ⟨by decide, by decide⟩ rfl ?_
      refine v_ireturn1 xB_10 dX1_isDry_30 xK_10 (by decide) ?_
      unfold dryF at o1 o2
      first | exact o1 (decide_eq_true (by omega)) | exact o2 (decide_eq_false (by omega))
    · refine v_iload_n (n := 12) xB_10 dX1_isDry_11 rfl rfl ?_
      refine v_if_lt (t := 29) (n := 15) xB_10 dX1_isDry_12 (by decide) rfl rfl (fun g5 => ?_) (fun g5 => ?_)
      · refine v_iconst (n := 30) xB_10 dX1_isDry_29 ⟨by decide, by decide⟩ rfl ?_
        refine v_ireturn1 xB_10 dX1_isDry_30 xK_10 (by decide) ?_
        unfold dryF at o1 o2
        first | exact o1 (decide_eq_true (by omega)) | exact o2 (decide_eq_false (by omega))
      · refine v_iload_n (n := 16) xB_10 dX1_isDry_15 rfl rfl ?_
        refine v_iconst (n := 17) xB_10 dX1_isDry_16 ⟨by decide, by decide⟩ rfl ?_
        refine v_iadd (n := 18) xB_10 dX1_isDry_17 (by first | omega | (simp only [sA_same, sA_s, ud_s, Int.reduceEq, if_true, if_false, ite_true, ite_false, ↓reduceIte, and_true, true_and, eq_self, Int.add_zero, Int.reduceAdd]; omega) | (simp (disch := omega) only [sA_same, sA_ne, ud_eq, ud_ne, Int.add_zero, Int.reduceAdd]; omega)) rfl ?_
        refine v_iload_n (n := 19) xB_10 dX1_isDry_18 rfl rfl ?_
        refine v_iconst (n := 20) xB_10 dX1_isDry_19 ⟨by decide, by decide⟩ rfl ?_
        refine v_iadd (n := 21) xB_10 dX1_isDry_20 (by first | omega | (simp only [sA_same, sA_s, ud_s, Int.reduceEq, if_true, if_false, ite_true, ite_false, ↓reduceIte, and_true, true_and, eq_self, Int.add_zero, Int.reduceAdd]; omega) | (simp (disch := omega) only [sA_same, sA_ne, ud_eq, ud_ne, Int.add_zero, Int.reduceAdd]; omega)) rfl ?_
        refine v_irem (n := 22) xB_10 dX1_isDry_21 (by first | omega | (simp only [sA_same, sA_s, ud_s, Int.reduceEq, if_true, if_false, ite_true, ite_false, ↓reduceIte, and_true, true_and, eq_self, Int.add_zero, Int.reduceAdd]; omega) | (simp (disch := omega) only [sA_same, sA_ne, ud_eq, ud_ne, Int.add_zero, Int.reduceAdd]; omega)) rfl ?_
        refine v_if_ne (t := 29) (n := 25) xB_10 dX1_isDry_22 (by decide) rfl rfl (fun g6 => ?_) (fun g6 => ?_)
        · refine v_iconst (n := 30) xB_10 dX1_isDry_29 ⟨by decide, by decide⟩ rfl ?_
          refine v_ireturn1 xB_10 dX1_isDry_30 xK_10 (by decide) ?_
          unfold dryF at o1 o2
          first | exact o1 (decide_eq_true (by omega)) | exact o2 (decide_eq_false (by omega))
        · refine v_iconst (n := 26) xB_10 dX1_isDry_25 ⟨by decide, by decide⟩ rfl ?_
          refine v_goto (t := 30) xB_10 dX1_isDry_26 (by decide) rfl ?_
          refine v_ireturn1 xB_10 dX1_isDry_30 xK_10 (by decide) ?_
          unfold dryF at o1 o2
          first | exact o1 (decide_eq_true (by omega)) | exact o2 (decide_eq_false (by omega))
set_option maxHeartbeats 1000000 in
theorem k_withPage {d : Nat} {s p b : Int} {σ : PS} {Q : Option PV → PS → Prop} (hd : 1 ≤ d) (hs : okS s) (hpg : 0 ≤ p ∧ p < 128) (hb : b = 0 ∨ b = 1) (o1 : Q (some (.inl (wpF s p (decide (b = 1))))) σ) : C d 11 [.inl s, .inl p, .inl b] σ Q := by
  refine C_go (k := 0) hd xL_11 (fun d hd => ?_)
  show V d 11 (0, ([some (.inl s), some (.inl p), some (.inl b), none], ([], σ))) Q
  unfold okS at hs
  refine v_iload_n (n := 1) xB_11 dX1_withPage_0 rfl rfl ?_
  refine v_if_eq (t := 12) (n := 4) xB_11 dX1_withPage_1 (by decide) rfl rfl (fun g1 => ?_) (fun g1 => ?_)
  · refine v_iload_n (n := 13) xB_11 dX1_withPage_12 rfl rfl ?_
    refine v_istore_n3 (n := 14) xB_11 dX1_withPage_13 rfl rfl ?_
    refine v_iload_n (n := 15) xB_11 dX1_withPage_14 rfl rfl ?_
    refine v_bipush (n := 17) xB_11 dX1_withPage_15 ⟨by decide, by decide⟩ rfl ?_
    refine v_iand_e (n := 18) xB_11 dX1_withPage_17 (z := s % 128) (iA127 (by omega) (by omega)) rfl ?_
    refine v_if_eq (t := 24) (n := 21) xB_11 dX1_withPage_18 (by decide) rfl rfl (fun g2 => ?_) (fun g2 => ?_)
    · refine v_iload_n (n := 25) xB_11 dX1_withPage_24 rfl rfl ?_
      refine v_sipush (n := 28) xB_11 dX1_withPage_25 ⟨by decide, by decide⟩ rfl ?_
      refine v_iand_e (n := 29) xB_11 dX1_withPage_28 (z := s - s % 256) (iAm256 (by omega) (by omega)) rfl ?_
      refine v_iload_n (n := 30) xB_11 dX1_withPage_29 rfl rfl ?_
      refine v_ior (n := 31) xB_11 dX1_withPage_30 rfl ?_
      refine v_ireturn0 xB_11 dX1_withPage_31 xK_11 ?_
      unfold wpF at o1
      first | rw [if_pos (by omega)] at o1 | rw [if_neg (by omega)] at o1
      first | rw [show b = 0 by omega, show (decide ((0 : Int) = 1)) = false from rfl, if_neg (by decide)] at o1 | rw [show b = 1 by omega, show (decide ((1 : Int) = 1)) = true from rfl, if_pos rfl] at o1 | skip
      rw [iOw (by omega) (by omega) (by omega) (by omega)]
      first | exact o1 | (rw [Int.add_zero] at o1; exact o1)
    · refine v_bipush (n := 23) xB_11 dX1_withPage_21 ⟨by decide, by decide⟩ rfl ?_
      refine v_istore_n3 (n := 24) xB_11 dX1_withPage_23 rfl rfl ?_
      refine v_iload_n (n := 25) xB_11 dX1_withPage_24 rfl rfl ?_
      refine v_sipush (n := 28) xB_11 dX1_withPage_25 ⟨by decide, by decide⟩ rfl ?_
      refine v_iand_e (n := 29) xB_11 dX1_withPage_28 (z := s - s % 256) (iAm256 (by omega) (by omega)) rfl ?_
      refine v_iload_n (n := 30) xB_11 dX1_withPage_29 rfl rfl ?_
      refine v_ior (n := 31) xB_11 dX1_withPage_30 rfl ?_
      refine v_ireturn0 xB_11 dX1_withPage_31 xK_11 ?_
      unfold wpF at o1
      first | rw [if_pos (by omega)] at o1 | rw [if_neg (by omega)] at o1
      first | rw [show b = 0 by omega, show (decide ((0 : Int) = 1)) = false from rfl, if_neg (by decide)] at o1 | rw [show b = 1 by omega, show (decide ((1 : Int) = 1)) = true from rfl, if_pos rfl] at o1 | skip
      rw [iOw (by omega) (by omega) (by omega) (by omega)]
      first | exact o1 | (rw [Int.add_zero] at o1; exact o1)
  · refine v_iload_n (n := 5) xB_11 dX1_withPage_4 rfl rfl ?_
    refine v_sipush (n := 8) xB_11 dX1_withPage_5 ⟨by decide, by decide⟩ rfl ?_
    refine v_ior_e (n := 9) xB_11 dX1_withPage_8 (z := p + 128) (iO128 (by omega) (by omega)) rfl ?_
    refine v_goto (t := 13) xB_11 dX1_withPage_9 (by decide) rfl ?_
    refine v_istore_n3 (n := 14) xB_11 dX1_withPage_13 rfl rfl ?_
    refine v_iload_n (n := 15) xB_11 dX1_withPage_14 rfl rfl ?_
    refine v_bipush (n := 17) xB_11 dX1_withPage_15 ⟨by decide, by decide⟩ rfl ?_
    refine v_iand_e (n := 18) xB_11 dX1_withPage_17 (z := s % 128) (iA127 (by omega) (by omega)) rfl ?_
    refine v_if_eq (t := 24) (n := 21) xB_11 dX1_withPage_18 (by decide) rfl rfl (fun g3 => ?_) (fun g3 => ?_)
    · refine v_iload_n (n := 25) xB_11 dX1_withPage_24 rfl rfl ?_
      refine v_sipush (n := 28) xB_11 dX1_withPage_25 ⟨by decide, by decide⟩ rfl ?_
      refine v_iand_e (n := 29) xB_11 dX1_withPage_28 (z := s - s % 256) (iAm256 (by omega) (by omega)) rfl ?_
      refine v_iload_n (n := 30) xB_11 dX1_withPage_29 rfl rfl ?_
      refine v_ior (n := 31) xB_11 dX1_withPage_30 rfl ?_
      refine v_ireturn0 xB_11 dX1_withPage_31 xK_11 ?_
      unfold wpF at o1
      first | rw [if_pos (by omega)] at o1 | rw [if_neg (by omega)] at o1
      first | rw [show b = 0 by omega, show (decide ((0 : Int) = 1)) = false from rfl, if_neg (by decide)] at o1 | rw [show b = 1 by omega, show (decide ((1 : Int) = 1)) = true from rfl, if_pos rfl] at o1 | skip
      rw [iOw (by omega) (by omega) (by omega) (by omega)]
      first | exact o1 | (rw [Int.add_zero] at o1; exact o1)
    · refine v_bipush (n := 23) xB_11 dX1_withPage_21 ⟨by decide, by decide⟩ rfl ?_
      refine v_istore_n3 (n := 24) xB_11 dX1_withPage_23 rfl rfl ?_
      refine v_iload_n (n := 25) xB_11 dX1_withPage_24 rfl rfl ?_
      refine v_sipush (n := 28) xB_11 dX1_withPage_25 ⟨by decide, by decide⟩ rfl ?_
      refine v_iand_e (n := 29) xB_11 dX1_withPage_28 (z := s - s % 256) (iAm256 (by omega) (by omega)) rfl ?_
      refine v_iload_n (n := 30) xB_11 dX1_withPage_29 rfl rfl ?_
      refine v_ior (n := 31) xB_11 dX1_withPage_30 rfl ?_
      refine v_ireturn0 xB_11 dX1_withPage_31 xK_11 ?_
      unfold wpF at o1
      first | rw [if_pos (by omega)] at o1 | rw [if_neg (by omega)] at o1
      first | rw [show b = 0 by omega, show (decide ((0 : Int) = 1)) = false from rfl, if_neg (by decide)] at o1 | rw [show b = 1 by omega, show (decide ((1 : Int) = 1)) = true from rfl, if_pos rfl] at o1 | skip
      rw [iOw (by omega) (by omega) (by omega) (by omega)]
      first | exact o1 | (rw [Int.add_zero] at o1; exact o1)
set_option maxHeartbeats 1000000 in
theorem k_laidOut {d : Nat} {s k : Int} {σ : PS} {Q : Option PV → PS → Prop} (hd : 2 ≤ d) (hs : okS s) (o1 : Q (some (.inl (lyF k s))) σ) : C d 12 [.inl s, .inl k] σ Q := by
  refine C_go (k := 1) hd xL_12 (fun d hd => ?_)
  show V d 12 (0, ([some (.inl s), some (.inl k)], ([], σ))) Q
  refine v_iload_n (n := 1) xB_12 dX1_laidOut_0 rfl rfl ?_
  refine v_tsw xB_12 dX1_laidOut_1 rfl ?_
  refine ts_c (lo' := 2) rfl (fun g1 => ?_) (fun g1 => ?_)
  · refine jm_go (t := 36) (by decide) rfl ?_
    refine v_iload_n (n := 37) xB_12 dX1_laidOut_36 rfl rfl ?_
    refine v_call_s (n := 40) xB_12 dX1_laidOut_37 xO_12 sp_1_78 (Or.inl rfl) iv_1_78 rfl rfl rfl rfl ?_
    refine k_over (by omega) hs ?_
    refine v_ireturn0 xB_12 dX1_laidOut_40 xK_12 ?_
    unfold lyF at o1
    first | (rw [if_pos (by omega)] at o1; exact o1) | (rw [if_neg (by omega), if_pos (by omega)] at o1; exact o1) | (rw [if_neg (by omega), if_neg (by omega)] at o1; exact o1)
  refine ts_c (lo' := 3) rfl (fun g2 => ?_) (fun g2 => ?_)
  · refine jm_go (t := 41) (by decide) rfl ?_
    refine v_iload_n (n := 42) xB_12 dX1_laidOut_41 rfl rfl ?_
    refine v_call_s (n := 45) xB_12 dX1_laidOut_42 xO_12 sp_1_78 (Or.inl rfl) iv_1_78 rfl rfl rfl rfl ?_
    refine k_over (by omega) hs ?_
    refine v_call_s (n := 48) xB_12 dX1_laidOut_45 xO_12 sp_1_82 (Or.inl rfl) iv_1_82 rfl rfl rfl rfl ?_
    refine k_about (by omega) (ovF_ok hs) ?_
    refine v_ireturn0 xB_12 dX1_laidOut_48 xK_12 ?_
    unfold lyF at o1
    first | (rw [if_pos (by omega)] at o1; exact o1) | (rw [if_neg (by omega), if_pos (by omega)] at o1; exact o1) | (rw [if_neg (by omega), if_neg (by omega)] at o1; exact o1)
  refine ts_c (lo' := 4) rfl (fun g3 => ?_) (fun g3 => ?_)
  · refine jm_go (t := 49) (by decide) rfl ?_
    refine v_iload_n (n := 50) xB_12 dX1_laidOut_49 rfl rfl ?_
    refine v_ireturn0 xB_12 dX1_laidOut_50 xK_12 ?_
    unfold lyF at o1
    first | (rw [if_pos (by omega)] at o1; exact o1) | (rw [if_neg (by omega), if_pos (by omega)] at o1; exact o1) | (rw [if_neg (by omega), if_neg (by omega)] at o1; exact o1)
  refine ts_c (lo' := 5) rfl (fun g4 => ?_) (fun g4 => ?_)
  · refine jm_go (t := 36) (by decide) rfl ?_
    refine v_iload_n (n := 37) xB_12 dX1_laidOut_36 rfl rfl ?_
    refine v_call_s (n := 40) xB_12 dX1_laidOut_37 xO_12 sp_1_78 (Or.inl rfl) iv_1_78 rfl rfl rfl rfl ?_
    refine k_over (by omega) hs ?_
    refine v_ireturn0 xB_12 dX1_laidOut_40 xK_12 ?_
    unfold lyF at o1
    first | (rw [if_pos (by omega)] at o1; exact o1) | (rw [if_neg (by omega), if_pos (by omega)] at o1; exact o1) | (rw [if_neg (by omega), if_neg (by omega)] at o1; exact o1)
  refine ts_c (lo' := 6) rfl (fun g5 => ?_) (fun g5 => ?_)
  · refine jm_go (t := 41) (by decide) rfl ?_
    refine v_iload_n (n := 42) xB_12 dX1_laidOut_41 rfl rfl ?_
    refine v_call_s (n := 45) xB_12 dX1_laidOut_42 xO_12 sp_1_78 (Or.inl rfl) iv_1_78 rfl rfl rfl rfl ?_
    refine k_over (by omega) hs ?_
    refine v_call_s (n := 48) xB_12 dX1_laidOut_45 xO_12 sp_1_82 (Or.inl rfl) iv_1_82 rfl rfl rfl rfl ?_
    refine k_about (by omega) (ovF_ok hs) ?_
    refine v_ireturn0 xB_12 dX1_laidOut_48 xK_12 ?_
    unfold lyF at o1
    first | (rw [if_pos (by omega)] at o1; exact o1) | (rw [if_neg (by omega), if_pos (by omega)] at o1; exact o1) | (rw [if_neg (by omega), if_neg (by omega)] at o1; exact o1)
  refine ts_n ?_
  refine jm_go (t := 49) (by decide) rfl ?_
  refine v_iload_n (n := 50) xB_12 dX1_laidOut_49 rfl rfl ?_
  refine v_ireturn0 xB_12 dX1_laidOut_50 xK_12 ?_
  unfold lyF at o1
  first | (rw [if_pos (by omega)] at o1; exact o1) | (rw [if_neg (by omega), if_pos (by omega)] at o1; exact o1) | (rw [if_neg (by omega), if_neg (by omega)] at o1; exact o1)
set_option maxHeartbeats 1000000 in
theorem k_gather {d : Nat} {p fl : Int} {m : PM} {dy : List (Nat × Nat)} {L : Nat} {Q : Option PV → PS → Prop} (hd : 1 ≤ d) (hp : pilA p) (hN : 0 ≤ m p 1 ∧ m p 1 ≤ 12) (hT : 0 ≤ m 60 1 ∧ m 60 1 ≤ m p 1) (hfl : 0 ≤ fl ∧ fl ≤ m 60 1) (hc : okc (m (p + 1))) (hcO : okc (m 61)) (o1 : ∀ f : Int → Int, okc f → (∀ s, 0 ≤ s → s < m p 1 → f s = if s < m p 1 - m 60 1 then m (p + 1) (fl + s) else m 61 (m p 1 - 1 - s)) → Q (none) (setA m (p + 1) f, (none, (dy, L)))) : C d 13 [.inr (.inr 60), .inr (.inr p), .inl fl] (m, (none, (dy, L))) Q := by
  refine C_go (k := 0) hd xL_13 (fun d hd => ?_)
  show V d 13 (0, ([some (.inr (.inr 60)), some (.inr (.inr p)), some (.inl fl), none, none], ([], (m, (none, (dy, L)))))) Q
  have hpd : p = 2 ∨ p = 28 ∨ p = 62 ∨ p = 64 := hp
  refine v_aload_n (n := 1) xB_13 dX1_gather_0 rfl rfl ?_
  refine v_gf_i (n := 4) (kz := 1) xB_13 dX1_gather_1 xO_13 fl_1_32 fg_4_1 rfl (sh_P hp _ _ _) rfl rfl ?_
  refine v_aload_n (n := 5) xB_13 dX1_gather_4 rfl rfl ?_
  refine v_gf_i (n := 8) (kz := 1) xB_13 dX1_gather_5 xO_13 fl_1_15 fg_1_1 rfl (sh_60 _ _ _) rfl rfl ?_
  refine v_isub (n := 9) xB_13 dX1_gather_8 (by first | omega | (simp only [sA_same, sA_s, ud_s, Int.reduceEq, if_true, if_false, ite_true, ite_false, ↓reduceIte, and_true, true_and, eq_self, Int.add_zero, Int.reduceAdd]; omega) | (simp (disch := omega) only [sA_same, sA_ne, ud_eq, ud_ne, Int.add_zero, Int.reduceAdd]; omega)) rfl ?_
  refine v_istore_n3 (n := 10) xB_13 dX1_gather_9 rfl rfl ?_
  refine v_iconst (n := 11) xB_13 dX1_gather_10 ⟨by decide, by decide⟩ rfl ?_
  refine v_istore4 (n := 13) xB_13 dX1_gather_11 rfl rfl ?_
  refine lp_up (F := fun (k : Int) (m' : PM) => V d 13 (13, ([some (.inr (.inr 60)), some (.inr (.inr p)), some (.inl fl), some (.inl (m p 1 - m 60 1)), some (.inl (k))], ([], (m', (none, (dy, L)))))) Q) (E := fun (k : Int) (m' : PM) => m' = setA m (p + 1) (ivl (fun x => m (p + 1) (fl + x)) (m (p + 1)) 0 (k))) (a := 0) (b := (m p 1 - m 60 1)) ?_ ?_ (0) (_) (by first | omega | (simp only [sA_same, sA_s, ud_s, Int.reduceEq, if_true, if_false, ite_true, ite_false, ↓reduceIte, and_true, true_and, eq_self, Int.add_zero, Int.reduceAdd]; omega) | (simp (disch := omega) only [sA_same, sA_ne, ud_eq, ud_ne, Int.add_zero, Int.reduceAdd]; omega)) (by first | omega | (simp only [sA_same, sA_s, ud_s, Int.reduceEq, if_true, if_false, ite_true, ite_false, ↓reduceIte, and_true, true_and, eq_self, Int.add_zero, Int.reduceAdd]; omega) | (simp (disch := omega) only [sA_same, sA_ne, ud_eq, ud_ne, Int.add_zero, Int.reduceAdd]; omega)) ?_
  · intro m' hm 
    show V d 13 (13, ([some (.inr (.inr 60)), some (.inr (.inr p)), some (.inl fl), some (.inl (m p 1 - m 60 1)), some (.inl ((m p 1 - m 60 1)))], ([], (m', (none, (dy, L)))))) Q
    subst hm
    refine v_iload (n := 15) xB_13 dX1_gather_13 rfl rfl ?_
    refine v_iload_n (n := 16) xB_13 dX1_gather_15 rfl rfl ?_
    refine v_ic_ge_y (t := 41) xB_13 dX1_gather_16 (by decide) rfl (by first | omega | (simp only [sA_same, sA_s, ud_s, Int.reduceEq, if_true, if_false, ite_true, ite_false, ↓reduceIte, and_true, true_and, eq_self, Int.add_zero, Int.reduceAdd]; omega) | (simp (disch := omega) only [sA_same, sA_ne, ud_eq, ud_ne, Int.add_zero, Int.reduceAdd]; omega)) ?_
    refine v_iconst (n := 42) xB_13 dX1_gather_41 ⟨by decide, by decide⟩ rfl ?_
    refine v_istore4 (n := 44) xB_13 dX1_gather_42 rfl rfl ?_
    refine lp_up (F := fun (k : Int) (m' : PM) => V d 13 (44, ([some (.inr (.inr 60)), some (.inr (.inr p)), some (.inl fl), some (.inl (m p 1 - m 60 1)), some (.inl (k))], ([], (m', (none, (dy, L)))))) Q) (E := fun (k : Int) (m' : PM) => m' = setA m (p + 1) (ivl (fun x => m 61 (m p 1 - 1 - x)) (ivl (fun x => m (p + 1) (fl + x)) (m (p + 1)) 0 ((m p 1 - m 60 1))) (m p 1 - m 60 1) ((m p 1 - m 60 1) + k))) (a := 0) (b := m 60 1) ?_ ?_ (0) (_) (by first | omega | (simp only [sA_same, sA_s, ud_s, Int.reduceEq, if_true, if_false, ite_true, ite_false, ↓reduceIte, and_true, true_and, eq_self, Int.add_zero, Int.reduceAdd]; omega) | (simp (disch := omega) only [sA_same, sA_ne, ud_eq, ud_ne, Int.add_zero, Int.reduceAdd]; omega)) (by first | omega | (simp only [sA_same, sA_s, ud_s, Int.reduceEq, if_true, if_false, ite_true, ite_false, ↓reduceIte, and_true, true_and, eq_self, Int.add_zero, Int.reduceAdd]; omega) | (simp (disch := omega) only [sA_same, sA_ne, ud_eq, ud_ne, Int.add_zero, Int.reduceAdd]; omega)) ?_
    · intro m' hm 
      show V d 13 (44, ([some (.inr (.inr 60)), some (.inr (.inr p)), some (.inl fl), some (.inl (m p 1 - m 60 1)), some (.inl (m 60 1))], ([], (m', (none, (dy, L)))))) Q
      subst hm
      refine v_iload (n := 46) xB_13 dX1_gather_44 rfl rfl ?_
      refine v_aload_n (n := 47) xB_13 dX1_gather_46 rfl rfl ?_
      refine v_gf_i (n := 50) (kz := 1) xB_13 dX1_gather_47 xO_13 fl_1_15 fg_1_1 rfl (sh_60 _ _ _) rfl rfl ?_
      refine v_ic_ge_y (t := 82) xB_13 dX1_gather_50 (by decide) rfl (by first | omega | (simp only [sA_same, sA_s, ud_s, Int.reduceEq, if_true, if_false, ite_true, ite_false, ↓reduceIte, and_true, true_and, eq_self, Int.add_zero, Int.reduceAdd]; omega) | (simp (disch := omega) only [sA_same, sA_ne, ud_eq, ud_ne, Int.add_zero, Int.reduceAdd]; omega)) ?_
      refine v_return xB_13 dX1_gather_82 xK_13 ?_
      refine o1 _ (okc_ivl (fun _ => hcO _) (okc_ivl (fun _ => hc _) hc _ _) _ _) (fun s h1 h2 => ?_)
      by_cases hs : s < m p 1 - m 60 1
      · rw [if_pos hs]; simp (disch := omega) only [ivl_in, ivl_lo, ivl_hi]
      · rw [if_neg hs]; simp (disch := omega) only [ivl_in, ivl_lo, ivl_hi]
    · intro k m' h1 h2 hm ih 
      show V d 13 (44, ([some (.inr (.inr 60)), some (.inr (.inr p)), some (.inl fl), some (.inl (m p 1 - m 60 1)), some (.inl (k))], ([], (m', (none, (dy, L)))))) Q
      subst hm
      refine v_iload (n := 46) xB_13 dX1_gather_44 rfl rfl ?_
      refine v_aload_n (n := 47) xB_13 dX1_gather_46 rfl rfl ?_
      refine v_gf_i (n := 50) (kz := 1) xB_13 dX1_gather_47 xO_13 fl_1_15 fg_1_1 rfl (sh_60 _ _ _) rfl rfl ?_
      refine v_ic_ge_n (n := 53) xB_13 dX1_gather_50 (by decide) rfl (by first | omega | (simp only [sA_same, sA_s, ud_s, Int.reduceEq, if_true, if_false, ite_true, ite_false, ↓reduceIte, and_true, true_and, eq_self, Int.add_zero, Int.reduceAdd]; omega) | (simp (disch := omega) only [sA_same, sA_ne, ud_eq, ud_ne, Int.add_zero, Int.reduceAdd]; omega)) ?_
      refine v_aload_n (n := 54) xB_13 dX1_gather_53 rfl rfl ?_
      refine v_gf_s (n := 57) (kz := 0) xB_13 dX1_gather_54 xO_13 fl_1_44 fg_4_0 (sh_P hp _ _ _) rfl (st_P hp) rfl ?_
      refine v_iload_n (n := 58) xB_13 dX1_gather_57 rfl rfl ?_
      refine v_iload (n := 60) xB_13 dX1_gather_58 rfl rfl ?_
      refine v_iadd (n := 61) xB_13 dX1_gather_60 (by first | omega | (simp only [sA_same, sA_s, ud_s, Int.reduceEq, if_true, if_false, ite_true, ite_false, ↓reduceIte, and_true, true_and, eq_self, Int.add_zero, Int.reduceAdd]; omega) | (simp (disch := omega) only [sA_same, sA_ne, ud_eq, ud_ne, Int.add_zero, Int.reduceAdd]; omega)) rfl ?_
      refine v_aload_n (n := 62) xB_13 dX1_gather_61 rfl rfl ?_
      refine v_gf_s (n := 65) (kz := 0) xB_13 dX1_gather_62 xO_13 fl_1_9 fg_1_0 (sh_60 _ _ _) rfl st_60_0 rfl ?_
      refine v_aload_n (n := 66) xB_13 dX1_gather_65 rfl rfl ?_
      refine v_gf_i (n := 69) (kz := 1) xB_13 dX1_gather_66 xO_13 fl_1_15 fg_1_1 rfl (sh_60 _ _ _) rfl rfl ?_
      refine v_iconst (n := 70) xB_13 dX1_gather_69 ⟨by decide, by decide⟩ rfl ?_
      refine v_isub (n := 71) xB_13 dX1_gather_70 (by first | omega | (simp only [sA_same, sA_s, ud_s, Int.reduceEq, if_true, if_false, ite_true, ite_false, ↓reduceIte, and_true, true_and, eq_self, Int.add_zero, Int.reduceAdd]; omega) | (simp (disch := omega) only [sA_same, sA_ne, ud_eq, ud_ne, Int.add_zero, Int.reduceAdd]; omega)) rfl ?_
      refine v_iload (n := 73) xB_13 dX1_gather_71 rfl rfl ?_
      refine v_isub (n := 74) xB_13 dX1_gather_73 (by first | omega | (simp only [sA_same, sA_s, ud_s, Int.reduceEq, if_true, if_false, ite_true, ite_false, ↓reduceIte, and_true, true_and, eq_self, Int.add_zero, Int.reduceAdd]; omega) | (simp (disch := omega) only [sA_same, sA_ne, ud_eq, ud_ne, Int.add_zero, Int.reduceAdd]; omega)) rfl ?_
      refine v_iaload (n := 75) (lz := 12) xB_13 dX1_gather_74 (sh_61 _ _ _) rfl (by first | omega | (simp only [sA_same, sA_s, ud_s, Int.reduceEq, if_true, if_false, ite_true, ite_false, ↓reduceIte, and_true, true_and, eq_self, Int.add_zero, Int.reduceAdd]; omega) | (simp (disch := omega) only [sA_same, sA_ne, ud_eq, ud_ne, Int.add_zero, Int.reduceAdd]; omega)) rfl ?_
      refine v_iastore (n := 76) (lz := 12) xB_13 dX1_gather_75 (sh_PA hp _ _ _) (by unfold pilA at hp; omega) rfl (by first | omega | (simp only [sA_same, sA_s, ud_s, Int.reduceEq, if_true, if_false, ite_true, ite_false, ↓reduceIte, and_true, true_and, eq_self, Int.add_zero, Int.reduceAdd]; omega) | (simp (disch := omega) only [sA_same, sA_ne, ud_eq, ud_ne, Int.add_zero, Int.reduceAdd]; omega)) rfl ?_
      (try simp (disch := omega) only [sA_same, sA_ne, sA_sA, sA_sr, sB_s, ud_eq, ud_ne, ud_ud, ud_sr, uB_s, Int.add_zero, Int.reduceAdd])
      refine v_iinc4 (n := 79) xB_13 dX1_gather_76 rfl (by first | omega | (simp only [sA_same, sA_s, ud_s, Int.reduceEq, if_true, if_false, ite_true, ite_false, ↓reduceIte, and_true, true_and, eq_self, Int.add_zero, Int.reduceAdd]; omega) | (simp (disch := omega) only [sA_same, sA_ne, ud_eq, ud_ne, Int.add_zero, Int.reduceAdd]; omega)) rfl ?_
      refine v_goto (t := 44) xB_13 dX1_gather_79 (by decide) rfl ?_
      refine ih _ ?_
      (try simp (disch := omega) only [sA_same, sA_ne, sA_sA, sA_sr, sB_s, ud_eq, ud_ne, ud_ud, ud_sr, uB_s, Int.add_zero, Int.reduceAdd])
      congr 1
      exact (by funext j'; simp only [ud_s, ivl, mirC, sA_same, sA_s, Int.reduceEq, if_true, if_false, ↓reduceIte]; (repeat' split) <;> first | rfl | omega | (congr 1; omega) | (congr 2; omega))
    · rw [ivl_0 (lo := (m p 1 - m 60 1)) (by omega)]
  · intro k m' h1 h2 hm ih 
    show V d 13 (13, ([some (.inr (.inr 60)), some (.inr (.inr p)), some (.inl fl), some (.inl (m p 1 - m 60 1)), some (.inl (k))], ([], (m', (none, (dy, L)))))) Q
    subst hm
    refine v_iload (n := 15) xB_13 dX1_gather_13 rfl rfl ?_
    refine v_iload_n (n := 16) xB_13 dX1_gather_15 rfl rfl ?_
    refine v_ic_ge_n (n := 19) xB_13 dX1_gather_16 (by decide) rfl (by first | omega | (simp only [sA_same, sA_s, ud_s, Int.reduceEq, if_true, if_false, ite_true, ite_false, ↓reduceIte, and_true, true_and, eq_self, Int.add_zero, Int.reduceAdd]; omega) | (simp (disch := omega) only [sA_same, sA_ne, ud_eq, ud_ne, Int.add_zero, Int.reduceAdd]; omega)) ?_
    refine v_aload_n (n := 20) xB_13 dX1_gather_19 rfl rfl ?_
    refine v_gf_s (n := 23) (kz := 0) xB_13 dX1_gather_20 xO_13 fl_1_44 fg_4_0 (sh_P hp _ _ _) rfl (st_P hp) rfl ?_
    refine v_iload (n := 25) xB_13 dX1_gather_23 rfl rfl ?_
    refine v_aload_n (n := 26) xB_13 dX1_gather_25 rfl rfl ?_
    refine v_gf_s (n := 29) (kz := 0) xB_13 dX1_gather_26 xO_13 fl_1_44 fg_4_0 (sh_P hp _ _ _) rfl (st_P hp) rfl ?_
    refine v_iload_n (n := 30) xB_13 dX1_gather_29 rfl rfl ?_
    refine v_iload (n := 32) xB_13 dX1_gather_30 rfl rfl ?_
    refine v_iadd (n := 33) xB_13 dX1_gather_32 (by first | omega | (simp only [sA_same, sA_s, ud_s, Int.reduceEq, if_true, if_false, ite_true, ite_false, ↓reduceIte, and_true, true_and, eq_self, Int.add_zero, Int.reduceAdd]; omega) | (simp (disch := omega) only [sA_same, sA_ne, ud_eq, ud_ne, Int.add_zero, Int.reduceAdd]; omega)) rfl ?_
    refine v_iaload (n := 34) (lz := 12) xB_13 dX1_gather_33 (sh_PA hp _ _ _) rfl (by first | omega | (simp only [sA_same, sA_s, ud_s, Int.reduceEq, if_true, if_false, ite_true, ite_false, ↓reduceIte, and_true, true_and, eq_self, Int.add_zero, Int.reduceAdd]; omega) | (simp (disch := omega) only [sA_same, sA_ne, ud_eq, ud_ne, Int.add_zero, Int.reduceAdd]; omega)) rfl ?_
    refine v_iastore (n := 35) (lz := 12) xB_13 dX1_gather_34 (sh_PA hp _ _ _) (by unfold pilA at hp; omega) rfl (by first | omega | (simp only [sA_same, sA_s, ud_s, Int.reduceEq, if_true, if_false, ite_true, ite_false, ↓reduceIte, and_true, true_and, eq_self, Int.add_zero, Int.reduceAdd]; omega) | (simp (disch := omega) only [sA_same, sA_ne, ud_eq, ud_ne, Int.add_zero, Int.reduceAdd]; omega)) rfl ?_
    (try simp (disch := omega) only [sA_same, sA_ne, sA_sA, sA_sr, sB_s, ud_eq, ud_ne, ud_ud, ud_sr, uB_s, Int.add_zero, Int.reduceAdd])
    refine v_iinc4 (n := 38) xB_13 dX1_gather_35 rfl (by first | omega | (simp only [sA_same, sA_s, ud_s, Int.reduceEq, if_true, if_false, ite_true, ite_false, ↓reduceIte, and_true, true_and, eq_self, Int.add_zero, Int.reduceAdd]; omega) | (simp (disch := omega) only [sA_same, sA_ne, ud_eq, ud_ne, Int.add_zero, Int.reduceAdd]; omega)) rfl ?_
    refine v_goto (t := 13) xB_13 dX1_gather_38 (by decide) rfl ?_
    refine ih _ ?_
    (try simp (disch := omega) only [sA_same, sA_ne, sA_sA, sA_sr, sB_s, ud_eq, ud_ne, ud_ud, ud_sr, uB_s, Int.add_zero, Int.reduceAdd])
    congr 1
    exact (by funext j'; simp only [ud_s, ivl, mirC, sA_same, sA_s, Int.reduceEq, if_true, if_false, ↓reduceIte]; (repeat' split) <;> first | rfl | omega | (congr 1; omega) | (congr 2; omega))
  · rw [ivl_0 (by omega), sA_id]
