/-! What is asked: the reference, questions over all trays. -/
set_option maxHeartbeats 1000000 in
theorem c_best {d : Nat} {CF : Int → CLs} {j : Int} {m : PM} {dy : List (Nat × Nat)} {L : Nat} {Q : Option PV → PS → Prop} (hd : 8 ≤ d) (hR : RI m CF) (o1 : ∀ m' : PM, RFr m m' → Q (some (.inl (BF m CF j))) (m', (none, (dy, L)))) : C d 174 [.inr (.inr 81), .inl j] (m, (none, (dy, L))) Q := by
  refine C_go (k := 7) hd xL_174 (fun d hd => ?_)
  show V d 174 (0, ([some (.inr (.inr 81)), some (.inl j), none, none, none, none], ([], (m, (none, (dy, L)))))) Q
  obtain ⟨s1, t1, j1, ⟨b1, b2, b3, b4, b5, b6, b7, b8⟩, r1, v1, ⟨u1, u2⟩, jr⟩ := hR
  have hR0 : RI m CF := ⟨s1, t1, j1, ⟨b1, b2, b3, b4, b5, b6, b7, b8⟩, r1, v1, ⟨u1, u2⟩, jr⟩
  refine v_aload_n (n := 1) xB_174 dX11_best_0 rfl rfl ?_
  refine v_iload_n (n := 2) xB_174 dX11_best_1 rfl rfl ?_
  refine v_call_v (n := 5) xB_174 dX11_best_2 xO_174 iv_11_283 rfl (sh_81 _ _ _) rfl rfl rfl ?_
  refine c_isJob (by omega) (by first | omega | (simp only [sA_same, sA_s, ud_s, Int.reduceEq, if_true, if_false, ite_true, ite_false, ↓reduceIte, and_true, true_and, eq_self, Int.add_zero, Int.reduceAdd]; omega) | (simp (disch := omega) only [sA_same, sA_ne, ud_eq, ud_ne, Int.add_zero, Int.reduceAdd]; omega)) (fun g1 => ?_) (fun g2 => ?_)
  · refine v_if_ne_y (t := 10) xB_174 dX11_best_5 (by decide) rfl (by decide) ?_
    refine v_bipush (n := 12) xB_174 dX11_best_10 ⟨by decide, by decide⟩ rfl ?_
    refine v_istore_n2 (n := 13) xB_174 dX11_best_12 rfl rfl ?_
    refine v_iconst (n := 14) xB_174 dX11_best_13 ⟨by decide, by decide⟩ rfl ?_
    refine v_istore_n3 (n := 15) xB_174 dX11_best_14 rfl rfl ?_
    refine v_iconst (n := 16) xB_174 dX11_best_15 ⟨by decide, by decide⟩ rfl ?_
    refine v_istore4 (n := 18) xB_174 dX11_best_16 rfl rfl ?_
    refine lp_up (F := fun (k : Int) (m' : PM) => ∀ x5 : Option PV, ∀ mo : Int, mo = (itN (fun t s => upS (RT m CF t j) t s) (k).toNat (-1, -5)).1 → ∀ fi : Int, fi = (itN (fun t s => upS (RT m CF t j) t s) (k).toNat (-1, -5)).2 → V d 174 (18, ([some (.inr (.inr 81)), some (.inl j), some (.inl fi), some (.inl mo), some (.inl (k)), x5], ([], (m', (none, (dy, L)))))) Q) (E := fun (k : Int) (m' : PM) => RFr m (m')) (a := 0) (b := m 81 0) ?_ ?_ (0) (_) (by first | omega | (simp only [sA_same, sA_s, ud_s, Int.reduceEq, if_true, if_false, ite_true, ite_false, ↓reduceIte, and_true, true_and, eq_self, Int.add_zero, Int.reduceAdd]; omega) | (simp (disch := omega) only [sA_same, sA_ne, ud_eq, ud_ne, Int.add_zero, Int.reduceAdd]; omega)) (by first | omega | (simp only [sA_same, sA_s, ud_s, Int.reduceEq, if_true, if_false, ite_true, ite_false, ↓reduceIte, and_true, true_and, eq_self, Int.add_zero, Int.reduceAdd]; omega) | (simp (disch := omega) only [sA_same, sA_ne, ud_eq, ud_ne, Int.add_zero, Int.reduceAdd]; omega)) ?_ _ _ rfl _ rfl
    · intro m' hm x5 mo hmo fi hfi
      show V d 174 (18, ([some (.inr (.inr 81)), some (.inl j), some (.inl fi), some (.inl mo), some (.inl (m 81 0)), x5], ([], (m', (none, (dy, L)))))) Q
      have e0 : m' 81 0 = m 81 0 := hm.2.1 0 (by omega)
      have e5 : m' 81 5 = m 81 5 := hm.2.1 5 (by omega)
      have e22 : m' 81 22 = m 81 22 := hm.2.1 22 (by omega)
      refine v_iload (n := 20) xB_174 dX11_best_18 rfl rfl ?_
      refine v_aload_n (n := 21) xB_174 dX11_best_20 rfl rfl ?_
      refine v_gf_i (n := 24) (kz := 0) xB_174 dX11_best_21 xO_174 fl_11_7 fg_11_0 rfl (sh_81 _ _ _) rfl rfl ?_
      refine v_ic_ge_y (t := 57) xB_174 dX11_best_24 (by decide) rfl (by first | omega | (simp only [sA_same, sA_s, ud_s, Int.reduceEq, if_true, if_false, ite_true, ite_false, ↓reduceIte, and_true, true_and, eq_self, Int.add_zero, Int.reduceAdd]; omega) | (simp (disch := omega) only [sA_same, sA_ne, ud_eq, ud_ne, Int.add_zero, Int.reduceAdd]; omega)) ?_
      refine v_iload_n (n := 58) xB_174 dX11_best_57 rfl rfl ?_
      refine v_ireturn0 xB_174 dX11_best_58 xK_174 ?_
      refine q_eqI (o1 _ hm) ?_
      unfold BF
      rw [if_pos (by omega)]
      exact hfi.symm
    · intro k m' h1 h2 hm ih x5 mo hmo fi hfi
      show V d 174 (18, ([some (.inr (.inr 81)), some (.inl j), some (.inl fi), some (.inl mo), some (.inl (k)), x5], ([], (m', (none, (dy, L)))))) Q
      have e0 : m' 81 0 = m 81 0 := hm.2.1 0 (by omega)
      have e5 : m' 81 5 = m 81 5 := hm.2.1 5 (by omega)
      have e22 : m' 81 22 = m 81 22 := hm.2.1 22 (by omega)
      refine v_iload (n := 20) xB_174 dX11_best_18 rfl rfl ?_
      refine v_aload_n (n := 21) xB_174 dX11_best_20 rfl rfl ?_
      refine v_gf_i (n := 24) (kz := 0) xB_174 dX11_best_21 xO_174 fl_11_7 fg_11_0 rfl (sh_81 _ _ _) rfl rfl ?_
      refine v_ic_ge_n (n := 27) xB_174 dX11_best_24 (by decide) rfl (by first | omega | (simp only [sA_same, sA_s, ud_s, Int.reduceEq, if_true, if_false, ite_true, ite_false, ↓reduceIte, and_true, true_and, eq_self, Int.add_zero, Int.reduceAdd]; omega) | (simp (disch := omega) only [sA_same, sA_ne, ud_eq, ud_ne, Int.add_zero, Int.reduceAdd]; omega)) ?_
      refine v_aload_n (n := 28) xB_174 dX11_best_27 rfl rfl ?_
      refine v_iload (n := 30) xB_174 dX11_best_28 rfl rfl ?_
      refine v_iload_n (n := 31) xB_174 dX11_best_30 rfl rfl ?_
      refine v_call_v (n := 34) xB_174 dX11_best_31 xO_174 iv_11_358 rfl (sh_81 _ _ _) rfl rfl rfl ?_
      refine c_rightAfter (by omega) (RI_R hR0 hm) (by first | omega | (simp only [sA_same, sA_s, ud_s, Int.reduceEq, if_true, if_false, ite_true, ite_false, ↓reduceIte, and_true, true_and, eq_self, Int.add_zero, Int.reduceAdd]; omega) | (simp (disch := omega) only [sA_same, sA_ne, ud_eq, ud_ne, Int.add_zero, Int.reduceAdd]; omega)) (by first | omega | (simp only [sA_same, sA_s, ud_s, Int.reduceEq, if_true, if_false, ite_true, ite_false, ↓reduceIte, and_true, true_and, eq_self, Int.add_zero, Int.reduceAdd]; omega) | (simp (disch := omega) only [sA_same, sA_ne, ud_eq, ud_ne, Int.add_zero, Int.reduceAdd]; omega)) (fun mA hA => ?_)
      have hm2 := RFr_trans hm hA
      rw [RT_AE (AE_R hm)]
      refine v_istore5 (n := 36) xB_174 dX11_best_34 rfl rfl ?_
      refine v_iload (n := 38) xB_174 dX11_best_36 rfl rfl ?_
      refine v_iload_n (n := 39) xB_174 dX11_best_38 rfl rfl ?_
      refine v_ic_gt (t := 45) (n := 42) xB_174 dX11_best_39 (by decide) rfl rfl (fun g1 => ?_) (fun g1 => ?_)
      · refine v_iload (n := 47) xB_174 dX11_best_45 rfl rfl ?_
        refine v_istore_n2 (n := 48) xB_174 dX11_best_47 rfl rfl ?_
        refine v_iload (n := 50) xB_174 dX11_best_48 rfl rfl ?_
        refine v_istore_n3 (n := 51) xB_174 dX11_best_50 rfl rfl ?_
        refine v_iinc4 (n := 54) xB_174 dX11_best_51 rfl (by first | omega | (simp only [sA_same, sA_s, ud_s, Int.reduceEq, if_true, if_false, ite_true, ite_false, ↓reduceIte, and_true, true_and, eq_self, Int.add_zero, Int.reduceAdd]; omega) | (simp (disch := omega) only [sA_same, sA_ne, ud_eq, ud_ne, Int.add_zero, Int.reduceAdd]; omega)) rfl ?_
        refine v_goto (t := 18) xB_174 dX11_best_54 (by decide) rfl ?_
        first
        | exact ih _ hm2 _ _ (by rw [itN_s h1, upS_n (by (try dsimp only); rw [← hmo]; omega)]; exact hmo) _ (by rw [itN_s h1, upS_n (by (try dsimp only); rw [← hmo]; omega)]; exact hfi)
        | exact ih _ hm2 _ _ (by rw [itN_s h1, upS_y (by (try dsimp only); rw [← hmo]; omega)]) _ (by rw [itN_s h1, upS_y (by (try dsimp only); rw [← hmo]; omega)])
      · refine v_goto (t := 51) xB_174 dX11_best_42 (by decide) rfl ?_
        refine v_iinc4 (n := 54) xB_174 dX11_best_51 rfl (by first | omega | (simp only [sA_same, sA_s, ud_s, Int.reduceEq, if_true, if_false, ite_true, ite_false, ↓reduceIte, and_true, true_and, eq_self, Int.add_zero, Int.reduceAdd]; omega) | (simp (disch := omega) only [sA_same, sA_ne, ud_eq, ud_ne, Int.add_zero, Int.reduceAdd]; omega)) rfl ?_
        refine v_goto (t := 18) xB_174 dX11_best_54 (by decide) rfl ?_
        first
        | exact ih _ hm2 _ _ (by rw [itN_s h1, upS_n (by (try dsimp only); rw [← hmo]; omega)]; exact hmo) _ (by rw [itN_s h1, upS_n (by (try dsimp only); rw [← hmo]; omega)]; exact hfi)
        | exact ih _ hm2 _ _ (by rw [itN_s h1, upS_y (by (try dsimp only); rw [← hmo]; omega)]) _ (by rw [itN_s h1, upS_y (by (try dsimp only); rw [← hmo]; omega)])
    · exact RI_refl hR0
  · refine v_if_ne_n (n := 8) xB_174 dX11_best_5 (by decide) rfl (by decide) ?_
    refine v_iconst (n := 9) xB_174 dX11_best_8 ⟨by decide, by decide⟩ rfl ?_
    refine v_ireturn0 xB_174 dX11_best_9 xK_174 ?_
    refine q_eqI (o1 _ (RI_refl hR0)) ?_
    unfold BF
    rw [if_neg (by omega)]
set_option maxHeartbeats 1000000 in
theorem c_way {d : Nat} {CF : Int → CLs} {t j u o x : Int} {m : PM} {dy : List (Nat × Nat)} {L : Nat} {Q : Option PV → PS → Prop} (hd : 8 ≤ d) (hR : RI m CF) (o1 : ∀ m' : PM, RFr m m' → Q (some (.inl (WYF m CF t j u o x))) (m', (none, (dy, L)))) : C d 177 [.inr (.inr 81), .inl t, .inl j, .inl u, .inl o, .inl x] (m, (none, (dy, L))) Q := by
  refine C_go (k := 7) hd xL_177 (fun d hd => ?_)
  show V d 177 (0, ([some (.inr (.inr 81)), some (.inl t), some (.inl j), some (.inl u), some (.inl o), some (.inl x), none, none, none, none], ([], (m, (none, (dy, L)))))) Q
  obtain ⟨s1, t1, j1, ⟨b1, b2, b3, b4, b5, b6, b7, b8⟩, r1, v1, ⟨u1, u2⟩, jr⟩ := hR
  have hR0 : RI m CF := ⟨s1, t1, j1, ⟨b1, b2, b3, b4, b5, b6, b7, b8⟩, r1, v1, ⟨u1, u2⟩, jr⟩
  refine v_aload_n (n := 1) xB_177 dX11_way_0 rfl rfl ?_
  refine v_iload_n (n := 2) xB_177 dX11_way_1 rfl rfl ?_
  refine v_call_v (n := 5) xB_177 dX11_way_2 xO_177 iv_11_225 rfl (sh_81 _ _ _) rfl rfl rfl ?_
  refine c_isTray (by omega) (by first | omega | (simp only [sA_same, sA_s, ud_s, Int.reduceEq, if_true, if_false, ite_true, ite_false, ↓reduceIte, and_true, true_and, eq_self, Int.add_zero, Int.reduceAdd]; omega) | (simp (disch := omega) only [sA_same, sA_ne, ud_eq, ud_ne, Int.add_zero, Int.reduceAdd]; omega)) (fun g1 => ?_) (fun g2 => ?_)
  · refine v_if_eq_n (n := 8) xB_177 dX11_way_5 (by decide) rfl (by decide) ?_
    refine v_aload_n (n := 9) xB_177 dX11_way_8 rfl rfl ?_
    refine v_iload_n (n := 10) xB_177 dX11_way_9 rfl rfl ?_
    refine v_call_v (n := 13) xB_177 dX11_way_10 xO_177 iv_11_283 rfl (sh_81 _ _ _) rfl rfl rfl ?_
    refine c_isJob (by omega) (by first | omega | (simp only [sA_same, sA_s, ud_s, Int.reduceEq, if_true, if_false, ite_true, ite_false, ↓reduceIte, and_true, true_and, eq_self, Int.add_zero, Int.reduceAdd]; omega) | (simp (disch := omega) only [sA_same, sA_ne, ud_eq, ud_ne, Int.add_zero, Int.reduceAdd]; omega)) (fun g3 => ?_) (fun g4 => ?_)
    · refine v_if_eq_n (n := 16) xB_177 dX11_way_13 (by decide) rfl (by decide) ?_
      refine v_aload_n (n := 17) xB_177 dX11_way_16 rfl rfl ?_
      refine v_iload_n (n := 18) xB_177 dX11_way_17 rfl rfl ?_
      refine v_call_v (n := 21) xB_177 dX11_way_18 xO_177 iv_11_225 rfl (sh_81 _ _ _) rfl rfl rfl ?_
      refine c_isTray (by omega) (by first | omega | (simp only [sA_same, sA_s, ud_s, Int.reduceEq, if_true, if_false, ite_true, ite_false, ↓reduceIte, and_true, true_and, eq_self, Int.add_zero, Int.reduceAdd]; omega) | (simp (disch := omega) only [sA_same, sA_ne, ud_eq, ud_ne, Int.add_zero, Int.reduceAdd]; omega)) (fun g5 => ?_) (fun g6 => ?_)
      · refine v_if_eq_n (n := 24) xB_177 dX11_way_21 (by decide) rfl (by decide) ?_
        refine v_aload_n (n := 25) xB_177 dX11_way_24 rfl rfl ?_
        refine v_iload (n := 27) xB_177 dX11_way_25 rfl rfl ?_
        refine v_call_v (n := 30) xB_177 dX11_way_27 xO_177 iv_11_283 rfl (sh_81 _ _ _) rfl rfl rfl ?_
        refine c_isJob (by omega) (by first | omega | (simp only [sA_same, sA_s, ud_s, Int.reduceEq, if_true, if_false, ite_true, ite_false, ↓reduceIte, and_true, true_and, eq_self, Int.add_zero, Int.reduceAdd]; omega) | (simp (disch := omega) only [sA_same, sA_ne, ud_eq, ud_ne, Int.add_zero, Int.reduceAdd]; omega)) (fun g7 => ?_) (fun g8 => ?_)
        · refine v_if_eq_n (n := 33) xB_177 dX11_way_30 (by decide) rfl (by decide) ?_
          refine v_aload_n (n := 34) xB_177 dX11_way_33 rfl rfl ?_
          refine v_iload (n := 36) xB_177 dX11_way_34 rfl rfl ?_
          refine v_iconst (n := 37) xB_177 dX11_way_36 ⟨by decide, by decide⟩ rfl ?_
          refine v_iconst (n := 38) xB_177 dX11_way_37 ⟨by decide, by decide⟩ rfl ?_
          refine v_call_v (n := 41) xB_177 dX11_way_38 xO_177 iv_11_221 rfl (sh_81 _ _ _) rfl rfl rfl ?_
          refine c_in (by omega)  (fun g9 => ?_) (fun g10 => ?_)
          · refine v_if_ne_y (t := 46) xB_177 dX11_way_41 (by decide) rfl (by decide) ?_
            refine v_iconst (n := 47) xB_177 dX11_way_46 ⟨by decide, by decide⟩ rfl ?_
            refine v_istore6 (n := 49) xB_177 dX11_way_47 rfl rfl ?_
            refine v_iconst (n := 50) xB_177 dX11_way_49 ⟨by decide, by decide⟩ rfl ?_
            refine v_istore7 (n := 52) xB_177 dX11_way_50 rfl rfl ?_
            refine v_iconst (n := 53) xB_177 dX11_way_52 ⟨by decide, by decide⟩ rfl ?_
            refine v_istore8 (n := 55) xB_177 dX11_way_53 rfl rfl ?_
            refine lp_up (F := fun (k : Int) (m' : PM) => ∀ x9 : Option PV, ∀ mo : Int, mo = (itN (fun w s => upS (R2 m CF w u o (RA m CF t (m 83 t) j)) w s) (k).toNat (-1, 0)).1 → ∀ fi : Int, fi = (itN (fun w s => upS (R2 m CF w u o (RA m CF t (m 83 t) j)) w s) (k).toNat (-1, 0)).2 → V d 177 (55, ([some (.inr (.inr 81)), some (.inl t), some (.inl j), some (.inl u), some (.inl o), some (.inl x), some (.inl fi), some (.inl mo), some (.inl (k)), x9], ([], (m', (none, (dy, L)))))) Q) (E := fun (k : Int) (m' : PM) => RFr m (m')) (a := 0) (b := 4) ?_ ?_ (0) (_) (by first | omega | (simp only [sA_same, sA_s, ud_s, Int.reduceEq, if_true, if_false, ite_true, ite_false, ↓reduceIte, and_true, true_and, eq_self, Int.add_zero, Int.reduceAdd]; omega) | (simp (disch := omega) only [sA_same, sA_ne, ud_eq, ud_ne, Int.add_zero, Int.reduceAdd]; omega)) (by first | omega | (simp only [sA_same, sA_s, ud_s, Int.reduceEq, if_true, if_false, ite_true, ite_false, ↓reduceIte, and_true, true_and, eq_self, Int.add_zero, Int.reduceAdd]; omega) | (simp (disch := omega) only [sA_same, sA_ne, ud_eq, ud_ne, Int.add_zero, Int.reduceAdd]; omega)) ?_ _ _ rfl _ rfl
            · intro m' hm x9 mo hmo fi hfi
              show V d 177 (55, ([some (.inr (.inr 81)), some (.inl t), some (.inl j), some (.inl u), some (.inl o), some (.inl x), some (.inl fi), some (.inl mo), some (.inl (4)), x9], ([], (m', (none, (dy, L)))))) Q
              have e0 : m' 81 0 = m 81 0 := hm.2.1 0 (by omega)
              have e5 : m' 81 5 = m 81 5 := hm.2.1 5 (by omega)
              have e22 : m' 81 22 = m 81 22 := hm.2.1 22 (by omega)
              refine v_iload (n := 57) xB_177 dX11_way_55 rfl rfl ?_
              refine v_iconst (n := 58) xB_177 dX11_way_57 ⟨by decide, by decide⟩ rfl ?_
              refine v_ic_ge_y (t := 98) xB_177 dX11_way_58 (by decide) rfl (by first | omega | (simp only [sA_same, sA_s, ud_s, Int.reduceEq, if_true, if_false, ite_true, ite_false, ↓reduceIte, and_true, true_and, eq_self, Int.add_zero, Int.reduceAdd]; omega) | (simp (disch := omega) only [sA_same, sA_ne, ud_eq, ud_ne, Int.add_zero, Int.reduceAdd]; omega)) ?_
              refine v_iload (n := 100) xB_177 dX11_way_98 rfl rfl ?_
              refine v_if_ne (t := 108) (n := 103) xB_177 dX11_way_100 (by decide) rfl rfl (fun g1 => ?_) (fun g1 => ?_)
              · refine v_iload (n := 110) xB_177 dX11_way_108 rfl rfl ?_
                refine v_ireturn0 xB_177 dX11_way_110 xK_177 ?_
                refine q_eqI (o1 _ hm) ?_
                unfold WYF
                rw [if_pos (by omega)]
                first | (rw [if_pos (by omega)]; exact hfi.symm) | (rw [if_neg (by omega)]; exact hmo.symm)
              · refine v_iload (n := 105) xB_177 dX11_way_103 rfl rfl ?_
                refine v_goto (t := 110) xB_177 dX11_way_105 (by decide) rfl ?_
                refine v_ireturn0 xB_177 dX11_way_110 xK_177 ?_
                refine q_eqI (o1 _ hm) ?_
                unfold WYF
                rw [if_pos (by omega)]
                first | (rw [if_pos (by omega)]; exact hfi.symm) | (rw [if_neg (by omega)]; exact hmo.symm)
            · intro k m' h1 h2 hm ih x9 mo hmo fi hfi
              show V d 177 (55, ([some (.inr (.inr 81)), some (.inl t), some (.inl j), some (.inl u), some (.inl o), some (.inl x), some (.inl fi), some (.inl mo), some (.inl (k)), x9], ([], (m', (none, (dy, L)))))) Q
              have e0 : m' 81 0 = m 81 0 := hm.2.1 0 (by omega)
              have e5 : m' 81 5 = m 81 5 := hm.2.1 5 (by omega)
              have e22 : m' 81 22 = m 81 22 := hm.2.1 22 (by omega)
              have e83 : m' 83 = m 83 := hm.1 83 (by omega) (by omega)
              refine v_iload (n := 57) xB_177 dX11_way_55 rfl rfl ?_
              refine v_iconst (n := 58) xB_177 dX11_way_57 ⟨by decide, by decide⟩ rfl ?_
              refine v_ic_ge_n (n := 61) xB_177 dX11_way_58 (by decide) rfl (by first | omega | (simp only [sA_same, sA_s, ud_s, Int.reduceEq, if_true, if_false, ite_true, ite_false, ↓reduceIte, and_true, true_and, eq_self, Int.add_zero, Int.reduceAdd]; omega) | (simp (disch := omega) only [sA_same, sA_ne, ud_eq, ud_ne, Int.add_zero, Int.reduceAdd]; omega)) ?_
              refine v_aload_n (n := 62) xB_177 dX11_way_61 rfl rfl ?_
              refine v_iload_n (n := 63) xB_177 dX11_way_62 rfl rfl ?_
              refine v_iload_n (n := 64) xB_177 dX11_way_63 rfl rfl ?_
              refine v_iload (n := 66) xB_177 dX11_way_64 rfl rfl ?_
              refine v_iload_n (n := 67) xB_177 dX11_way_66 rfl rfl ?_
              refine v_iload (n := 69) xB_177 dX11_way_67 rfl rfl ?_
              refine v_call_v (n := 72) xB_177 dX11_way_69 xO_177 iv_11_361 rfl (sh_81 _ _ _) rfl rfl rfl ?_
              refine c_rightTwice (by omega) (RI_R hR0 hm) (by first | omega | (simp only [sA_same, sA_s, ud_s, Int.reduceEq, if_true, if_false, ite_true, ite_false, ↓reduceIte, and_true, true_and, eq_self, Int.add_zero, Int.reduceAdd]; omega) | (simp (disch := omega) only [sA_same, sA_ne, ud_eq, ud_ne, Int.add_zero, Int.reduceAdd]; omega)) (by first | omega | (simp only [sA_same, sA_s, ud_s, Int.reduceEq, if_true, if_false, ite_true, ite_false, ↓reduceIte, and_true, true_and, eq_self, Int.add_zero, Int.reduceAdd]; omega) | (simp (disch := omega) only [sA_same, sA_ne, ud_eq, ud_ne, Int.add_zero, Int.reduceAdd]; omega)) (by first | omega | (simp only [sA_same, sA_s, ud_s, Int.reduceEq, if_true, if_false, ite_true, ite_false, ↓reduceIte, and_true, true_and, eq_self, Int.add_zero, Int.reduceAdd]; omega) | (simp (disch := omega) only [sA_same, sA_ne, ud_eq, ud_ne, Int.add_zero, Int.reduceAdd]; omega)) (by first | omega | (simp only [sA_same, sA_s, ud_s, Int.reduceEq, if_true, if_false, ite_true, ite_false, ↓reduceIte, and_true, true_and, eq_self, Int.add_zero, Int.reduceAdd]; omega) | (simp (disch := omega) only [sA_same, sA_ne, ud_eq, ud_ne, Int.add_zero, Int.reduceAdd]; omega)) (by first | omega | (simp only [sA_same, sA_s, ud_s, Int.reduceEq, if_true, if_false, ite_true, ite_false, ↓reduceIte, and_true, true_and, eq_self, Int.add_zero, Int.reduceAdd]; omega) | (simp (disch := omega) only [sA_same, sA_ne, ud_eq, ud_ne, Int.add_zero, Int.reduceAdd]; omega)) (fun mA hA => ?_)
              have hm2 := RFr_trans hm hA
              rw [R2_AE (AE_R hm), RA_AE (AE_R hm), e83]
              refine v_istore9 (n := 74) xB_177 dX11_way_72 rfl rfl ?_
              refine v_iload (n := 76) xB_177 dX11_way_74 rfl rfl ?_
              refine v_iload (n := 78) xB_177 dX11_way_76 rfl rfl ?_
              refine v_ic_gt (t := 84) (n := 81) xB_177 dX11_way_78 (by decide) rfl rfl (fun g1 => ?_) (fun g1 => ?_)
              · refine v_iload (n := 86) xB_177 dX11_way_84 rfl rfl ?_
                refine v_istore6 (n := 88) xB_177 dX11_way_86 rfl rfl ?_
                refine v_iload (n := 90) xB_177 dX11_way_88 rfl rfl ?_
                refine v_istore7 (n := 92) xB_177 dX11_way_90 rfl rfl ?_
                refine v_iinc8 (n := 95) xB_177 dX11_way_92 rfl (by first | omega | (simp only [sA_same, sA_s, ud_s, Int.reduceEq, if_true, if_false, ite_true, ite_false, ↓reduceIte, and_true, true_and, eq_self, Int.add_zero, Int.reduceAdd]; omega) | (simp (disch := omega) only [sA_same, sA_ne, ud_eq, ud_ne, Int.add_zero, Int.reduceAdd]; omega)) rfl ?_
                refine v_goto (t := 55) xB_177 dX11_way_95 (by decide) rfl ?_
                first
                | exact ih _ hm2 _ _ (by rw [itN_s h1, upS_n (by (try dsimp only); rw [← hmo]; omega)]; exact hmo) _ (by rw [itN_s h1, upS_n (by (try dsimp only); rw [← hmo]; omega)]; exact hfi)
                | exact ih _ hm2 _ _ (by rw [itN_s h1, upS_y (by (try dsimp only); rw [← hmo]; omega)]) _ (by rw [itN_s h1, upS_y (by (try dsimp only); rw [← hmo]; omega)])
              · refine v_goto (t := 92) xB_177 dX11_way_81 (by decide) rfl ?_
                refine v_iinc8 (n := 95) xB_177 dX11_way_92 rfl (by first | omega | (simp only [sA_same, sA_s, ud_s, Int.reduceEq, if_true, if_false, ite_true, ite_false, ↓reduceIte, and_true, true_and, eq_self, Int.add_zero, Int.reduceAdd]; omega) | (simp (disch := omega) only [sA_same, sA_ne, ud_eq, ud_ne, Int.add_zero, Int.reduceAdd]; omega)) rfl ?_
                refine v_goto (t := 55) xB_177 dX11_way_95 (by decide) rfl ?_
                first
                | exact ih _ hm2 _ _ (by rw [itN_s h1, upS_n (by (try dsimp only); rw [← hmo]; omega)]; exact hmo) _ (by rw [itN_s h1, upS_n (by (try dsimp only); rw [← hmo]; omega)]; exact hfi)
                | exact ih _ hm2 _ _ (by rw [itN_s h1, upS_y (by (try dsimp only); rw [← hmo]; omega)]) _ (by rw [itN_s h1, upS_y (by (try dsimp only); rw [← hmo]; omega)])
            · exact RI_refl hR0
          · refine v_if_ne_n (n := 44) xB_177 dX11_way_41 (by decide) rfl (by decide) ?_
            refine v_iconst (n := 45) xB_177 dX11_way_44 ⟨by decide, by decide⟩ rfl ?_
            refine v_ireturn0 xB_177 dX11_way_45 xK_177 ?_
            refine q_eqI (o1 _ (RI_refl hR0)) ?_
            unfold WYF
            rw [if_neg (by omega)]
        · refine v_if_eq_y (t := 44) xB_177 dX11_way_30 (by decide) rfl (by decide) ?_
          refine v_iconst (n := 45) xB_177 dX11_way_44 ⟨by decide, by decide⟩ rfl ?_
          refine v_ireturn0 xB_177 dX11_way_45 xK_177 ?_
          refine q_eqI (o1 _ (RI_refl hR0)) ?_
          unfold WYF
          rw [if_neg (by omega)]
      · refine v_if_eq_y (t := 44) xB_177 dX11_way_21 (by decide) rfl (by decide) ?_
        refine v_iconst (n := 45) xB_177 dX11_way_44 ⟨by decide, by decide⟩ rfl ?_
        refine v_ireturn0 xB_177 dX11_way_45 xK_177 ?_
        refine q_eqI (o1 _ (RI_refl hR0)) ?_
        unfold WYF
        rw [if_neg (by omega)]
    · refine v_if_eq_y (t := 44) xB_177 dX11_way_13 (by decide) rfl (by decide) ?_
      refine v_iconst (n := 45) xB_177 dX11_way_44 ⟨by decide, by decide⟩ rfl ?_
      refine v_ireturn0 xB_177 dX11_way_45 xK_177 ?_
      refine q_eqI (o1 _ (RI_refl hR0)) ?_
      unfold WYF
      rw [if_neg (by omega)]
  · refine v_if_eq_y (t := 44) xB_177 dX11_way_5 (by decide) rfl (by decide) ?_
    refine v_iconst (n := 45) xB_177 dX11_way_44 ⟨by decide, by decide⟩ rfl ?_
    refine v_ireturn0 xB_177 dX11_way_45 xK_177 ?_
    refine q_eqI (o1 _ (RI_refl hR0)) ?_
    unfold WYF
    rw [if_neg (by omega)]
set_option maxHeartbeats 1000000 in
theorem c_which {d : Nat} {CF : Int → CLs} {j : Int} {m : PM} {dy : List (Nat × Nat)} {L : Nat} {Q : Option PV → PS → Prop} (hd : 8 ≤ d) (hR : RI m CF) (o1 : ∀ m' : PM, RFr m m' → Q (some (.inl (WI m CF j))) (m', (none, (dy, L)))) : C d 184 [.inr (.inr 81), .inl j] (m, (none, (dy, L))) Q := by
  refine C_go (k := 7) hd xL_184 (fun d hd => ?_)
  show V d 184 (0, ([some (.inr (.inr 81)), some (.inl j), none, none], ([], (m, (none, (dy, L)))))) Q
  obtain ⟨s1, t1, j1, ⟨b1, b2, b3, b4, b5, b6, b7, b8⟩, r1, v1, ⟨u1, u2⟩, jr⟩ := hR
  have hR0 : RI m CF := ⟨s1, t1, j1, ⟨b1, b2, b3, b4, b5, b6, b7, b8⟩, r1, v1, ⟨u1, u2⟩, jr⟩
  refine v_aload_n (n := 1) xB_184 dX11_which_0 rfl rfl ?_
  refine v_iload_n (n := 2) xB_184 dX11_which_1 rfl rfl ?_
  refine v_call_v (n := 5) xB_184 dX11_which_2 xO_184 iv_11_283 rfl (sh_81 _ _ _) rfl rfl rfl ?_
  refine c_isJob (by omega) (by first | omega | (simp only [sA_same, sA_s, ud_s, Int.reduceEq, if_true, if_false, ite_true, ite_false, ↓reduceIte, and_true, true_and, eq_self, Int.add_zero, Int.reduceAdd]; omega) | (simp (disch := omega) only [sA_same, sA_ne, ud_eq, ud_ne, Int.add_zero, Int.reduceAdd]; omega)) (fun g1 => ?_) (fun g2 => ?_)
  · refine v_if_ne_y (t := 10) xB_184 dX11_which_5 (by decide) rfl (by decide) ?_
    refine v_iconst (n := 11) xB_184 dX11_which_10 ⟨by decide, by decide⟩ rfl ?_
    refine v_istore_n2 (n := 12) xB_184 dX11_which_11 rfl rfl ?_
    refine v_iconst (n := 13) xB_184 dX11_which_12 ⟨by decide, by decide⟩ rfl ?_
    refine v_istore_n3 (n := 14) xB_184 dX11_which_13 rfl rfl ?_
    refine lp_up (F := fun (k : Int) (m' : PM) => ∀ mo : Int, mo = itN (fun t b => if SB m CF t (m 83 t) j = true then iOr b (2 ^ t.toNat) else b) (k).toNat (0 : Int) ∧ -2147483648 ≤ mo ∧ mo < 2147483648 → V d 184 (14, ([some (.inr (.inr 81)), some (.inl j), some (.inl mo), some (.inl (k))], ([], (m', (none, (dy, L)))))) Q) (E := fun (k : Int) (m' : PM) => RFr m (m')) (a := 0) (b := m 81 0) ?_ ?_ (0) (_) (by first | omega | (simp only [sA_same, sA_s, ud_s, Int.reduceEq, if_true, if_false, ite_true, ite_false, ↓reduceIte, and_true, true_and, eq_self, Int.add_zero, Int.reduceAdd]; omega) | (simp (disch := omega) only [sA_same, sA_ne, ud_eq, ud_ne, Int.add_zero, Int.reduceAdd]; omega)) (by first | omega | (simp only [sA_same, sA_s, ud_s, Int.reduceEq, if_true, if_false, ite_true, ite_false, ↓reduceIte, and_true, true_and, eq_self, Int.add_zero, Int.reduceAdd]; omega) | (simp (disch := omega) only [sA_same, sA_ne, ud_eq, ud_ne, Int.add_zero, Int.reduceAdd]; omega)) ?_ _ ⟨rfl, (by decide : (-2147483648 : Int) ≤ 0), (by decide : (0 : Int) < 2147483648)⟩
    · intro m' hm mo hmo
      show V d 184 (14, ([some (.inr (.inr 81)), some (.inl j), some (.inl mo), some (.inl (m 81 0))], ([], (m', (none, (dy, L)))))) Q
      have e0 : m' 81 0 = m 81 0 := hm.2.1 0 (by omega)
      have e5 : m' 81 5 = m 81 5 := hm.2.1 5 (by omega)
      have e22 : m' 81 22 = m 81 22 := hm.2.1 22 (by omega)
      refine v_iload_n (n := 15) xB_184 dX11_which_14 rfl rfl ?_
      refine v_aload_n (n := 16) xB_184 dX11_which_15 rfl rfl ?_
      refine v_gf_i (n := 19) (kz := 0) xB_184 dX11_which_16 xO_184 fl_11_7 fg_11_0 rfl (sh_81 _ _ _) rfl rfl ?_
      refine v_ic_ge_y (t := 47) xB_184 dX11_which_19 (by decide) rfl (by first | omega | (simp only [sA_same, sA_s, ud_s, Int.reduceEq, if_true, if_false, ite_true, ite_false, ↓reduceIte, and_true, true_and, eq_self, Int.add_zero, Int.reduceAdd]; omega) | (simp (disch := omega) only [sA_same, sA_ne, ud_eq, ud_ne, Int.add_zero, Int.reduceAdd]; omega)) ?_
      refine v_iload_n (n := 48) xB_184 dX11_which_47 rfl rfl ?_
      refine v_ireturn0 xB_184 dX11_which_48 xK_184 ?_
      refine q_eqI (o1 _ hm) ?_
      unfold WI
      rw [if_pos (by omega)]
      exact hmo.1.symm
    · intro k m' h1 h2 hm ih mo hmo
      show V d 184 (14, ([some (.inr (.inr 81)), some (.inl j), some (.inl mo), some (.inl (k))], ([], (m', (none, (dy, L)))))) Q
      have e0 : m' 81 0 = m 81 0 := hm.2.1 0 (by omega)
      have e5 : m' 81 5 = m 81 5 := hm.2.1 5 (by omega)
      have e22 : m' 81 22 = m 81 22 := hm.2.1 22 (by omega)
      have e83 : m' 83 = m 83 := hm.1 83 (by omega) (by omega)
      refine v_iload_n (n := 15) xB_184 dX11_which_14 rfl rfl ?_
      refine v_aload_n (n := 16) xB_184 dX11_which_15 rfl rfl ?_
      refine v_gf_i (n := 19) (kz := 0) xB_184 dX11_which_16 xO_184 fl_11_7 fg_11_0 rfl (sh_81 _ _ _) rfl rfl ?_
      refine v_ic_ge_n (n := 22) xB_184 dX11_which_19 (by decide) rfl (by first | omega | (simp only [sA_same, sA_s, ud_s, Int.reduceEq, if_true, if_false, ite_true, ite_false, ↓reduceIte, and_true, true_and, eq_self, Int.add_zero, Int.reduceAdd]; omega) | (simp (disch := omega) only [sA_same, sA_ne, ud_eq, ud_ne, Int.add_zero, Int.reduceAdd]; omega)) ?_
      refine v_iload_n (n := 23) xB_184 dX11_which_22 rfl rfl ?_
      refine v_aload_n (n := 24) xB_184 dX11_which_23 rfl rfl ?_
      refine v_iload_n (n := 25) xB_184 dX11_which_24 rfl rfl ?_
      refine v_iload_n (n := 26) xB_184 dX11_which_25 rfl rfl ?_
      refine v_call_v (n := 29) xB_184 dX11_which_26 xO_184 iv_11_371 rfl (sh_81 _ _ _) rfl rfl rfl ?_
      refine c_isSeenAfter (by omega) (RI_R hR0 hm) (by first | omega | (simp only [sA_same, sA_s, ud_s, Int.reduceEq, if_true, if_false, ite_true, ite_false, ↓reduceIte, and_true, true_and, eq_self, Int.add_zero, Int.reduceAdd]; omega) | (simp (disch := omega) only [sA_same, sA_ne, ud_eq, ud_ne, Int.add_zero, Int.reduceAdd]; omega)) (by first | omega | (simp only [sA_same, sA_s, ud_s, Int.reduceEq, if_true, if_false, ite_true, ite_false, ↓reduceIte, and_true, true_and, eq_self, Int.add_zero, Int.reduceAdd]; omega) | (simp (disch := omega) only [sA_same, sA_ne, ud_eq, ud_ne, Int.add_zero, Int.reduceAdd]; omega)) (fun mA hA gS => ?_) (fun mA hA gS => ?_)
      · refine v_if_eq_n (n := 32) xB_184 dX11_which_29 (by decide) rfl (by decide) ?_
        refine v_iconst (n := 33) xB_184 dX11_which_32 ⟨by decide, by decide⟩ rfl ?_
        refine v_iload_n (n := 34) xB_184 dX11_which_33 rfl rfl ?_
        refine v_ishl (n := 35) xB_184 dX11_which_34 rfl ⟨by decide, by omega, by omega, by have := p2_5 (y := k) (by omega); omega⟩ rfl ?_
        refine v_goto (t := 39) xB_184 dX11_which_35 (by decide) rfl ?_
        refine v_ior (n := 40) xB_184 dX11_which_39 rfl ?_
        refine v_istore_n2 (n := 41) xB_184 dX11_which_40 rfl rfl ?_
        refine v_iinc3 (n := 44) xB_184 dX11_which_41 rfl (by first | omega | (simp only [sA_same, sA_s, ud_s, Int.reduceEq, if_true, if_false, ite_true, ite_false, ↓reduceIte, and_true, true_and, eq_self, Int.add_zero, Int.reduceAdd]; omega) | (simp (disch := omega) only [sA_same, sA_ne, ud_eq, ud_ne, Int.add_zero, Int.reduceAdd]; omega)) rfl ?_
        refine v_goto (t := 14) xB_184 dX11_which_44 (by decide) rfl ?_
        have hm2 := RFr_trans hm hA
        rw [SB_AE (AE_R hm), e83] at gS
        first
        | exact ih _ hm2 _ ⟨by rw [itN_s h1, if_pos gS, ← hmo.1, Int.one_mul], iO_in _ _⟩
        | exact ih _ hm2 _ ⟨by rw [itN_s h1, if_neg (by rw [gS]; decide), ← hmo.1, iO0 hmo.2.1 hmo.2.2], iO_in _ _⟩
      · refine v_if_eq_y (t := 38) xB_184 dX11_which_29 (by decide) rfl (by decide) ?_
        refine v_iconst (n := 39) xB_184 dX11_which_38 ⟨by decide, by decide⟩ rfl ?_
        refine v_ior (n := 40) xB_184 dX11_which_39 rfl ?_
        refine v_istore_n2 (n := 41) xB_184 dX11_which_40 rfl rfl ?_
        refine v_iinc3 (n := 44) xB_184 dX11_which_41 rfl (by first | omega | (simp only [sA_same, sA_s, ud_s, Int.reduceEq, if_true, if_false, ite_true, ite_false, ↓reduceIte, and_true, true_and, eq_self, Int.add_zero, Int.reduceAdd]; omega) | (simp (disch := omega) only [sA_same, sA_ne, ud_eq, ud_ne, Int.add_zero, Int.reduceAdd]; omega)) rfl ?_
        refine v_goto (t := 14) xB_184 dX11_which_44 (by decide) rfl ?_
        have hm2 := RFr_trans hm hA
        rw [SB_AE (AE_R hm), e83] at gS
        first
        | exact ih _ hm2 _ ⟨by rw [itN_s h1, if_pos gS, ← hmo.1, Int.one_mul], iO_in _ _⟩
        | exact ih _ hm2 _ ⟨by rw [itN_s h1, if_neg (by rw [gS]; decide), ← hmo.1, iO0 hmo.2.1 hmo.2.2], iO_in _ _⟩
    · exact RI_refl hR0
  · refine v_if_ne_n (n := 8) xB_184 dX11_which_5 (by decide) rfl (by decide) ?_
    refine v_iconst (n := 9) xB_184 dX11_which_8 ⟨by decide, by decide⟩ rfl ?_
    refine v_ireturn0 xB_184 dX11_which_9 xK_184 ?_
    refine q_eqI (o1 _ (RI_refl hR0)) ?_
    unfold WI
    rw [if_neg (by omega)]
theorem RI_83 {m : PM} {CF : Int → CLs} {t z : Int} (h : RI m CF) (hz : 0 ≤ z ∧ z ≤ 9) : RI (setA m 83 (ud (m 83) t z)) CF := by
  obtain ⟨a1, a2, a3, a4, a5, a6, a7, a8⟩ := h
  unfold RI
  simp (disch := omega) only [sA_ne, sA_same]
  refine ⟨a1, a2, a3, a4, a5, fun x h1 h2 => ⟨(a6 x h1 h2).1, ?_⟩, a7, fun j h1 h2 => JR_s (fun a p q => by simp (disch := omega) only [sA_ne]) (a8 j h1 h2)⟩
  by_cases hx : x = t
  · rw [hx, ud_eq]; exact hz
  · rw [ud_ne hx]; exact (a6 x h1 h2).2
theorem RFr_83 {m m' : PM} {f g : Int → Int} (h : RFr (setA m 83 f) m') : RFr (setA m 83 g) (setA m' 83 g) := by
  obtain ⟨h1, h2, h3, h4⟩ := h
  refine ⟨fun a p q => ?_, fun k hk => ?_, ?_, fun s p q => ?_⟩
  · by_cases ha : a = 83
    · rw [ha, sA_same, sA_same]
    · have := h1 a p q
      rw [sA_ne ha] at this
      rw [sA_ne ha, sA_ne ha]; exact this
  · have := h2 k hk
    simp (disch := omega) only [sA_ne] at this ⊢
    exact this
  · simp (disch := omega) only [sA_ne]; exact h3
  · have := h4 s p q
    simp (disch := omega) only [sA_ne] at this ⊢
    exact this
theorem SB_83 (m : PM) (g : Int → Int) (CF : Int → CLs) : SB (setA m 83 g) CF = SB m CF := by
  funext t v j; unfold SB RA RQ pc
  simp (disch := omega) only [sA_ne]
set_option maxHeartbeats 1000000 in
theorem c_can {d : Nat} {CF : Int → CLs} {t j x : Int} {m : PM} {dy : List (Nat × Nat)} {L : Nat} {Q : Option PV → PS → Prop} (hd : 8 ≤ d) (hR : RI m CF) (o1 : ∀ m' : PM, RFr m m' → Q (some (.inl (CA m CF t j x))) (m', (none, (dy, L)))) : C d 185 [.inr (.inr 81), .inl t, .inl j, .inl x] (m, (none, (dy, L))) Q := by
  refine C_go (k := 7) hd xL_185 (fun d hd => ?_)
  show V d 185 (0, ([some (.inr (.inr 81)), some (.inl t), some (.inl j), some (.inl x), none, none, none, none], ([], (m, (none, (dy, L)))))) Q
  obtain ⟨s1, t1, j1, ⟨b1, b2, b3, b4, b5, b6, b7, b8⟩, r1, v1, ⟨u1, u2⟩, jr⟩ := hR
  have hR0 : RI m CF := ⟨s1, t1, j1, ⟨b1, b2, b3, b4, b5, b6, b7, b8⟩, r1, v1, ⟨u1, u2⟩, jr⟩
  refine v_aload_n (n := 1) xB_185 dX11_can_0 rfl rfl ?_
  refine v_iload_n (n := 2) xB_185 dX11_can_1 rfl rfl ?_
  refine v_call_v (n := 5) xB_185 dX11_can_2 xO_185 iv_11_225 rfl (sh_81 _ _ _) rfl rfl rfl ?_
  refine c_isTray (by omega) (by first | omega | (simp only [sA_same, sA_s, ud_s, Int.reduceEq, if_true, if_false, ite_true, ite_false, ↓reduceIte, and_true, true_and, eq_self, Int.add_zero, Int.reduceAdd]; omega) | (simp (disch := omega) only [sA_same, sA_ne, ud_eq, ud_ne, Int.add_zero, Int.reduceAdd]; omega)) (fun g1 => ?_) (fun g2 => ?_)
  · refine v_if_eq_n (n := 8) xB_185 dX11_can_5 (by decide) rfl (by decide) ?_
    refine v_aload_n (n := 9) xB_185 dX11_can_8 rfl rfl ?_
    refine v_iload_n (n := 10) xB_185 dX11_can_9 rfl rfl ?_
    refine v_call_v (n := 13) xB_185 dX11_can_10 xO_185 iv_11_283 rfl (sh_81 _ _ _) rfl rfl rfl ?_
    refine c_isJob (by omega) (by first | omega | (simp only [sA_same, sA_s, ud_s, Int.reduceEq, if_true, if_false, ite_true, ite_false, ↓reduceIte, and_true, true_and, eq_self, Int.add_zero, Int.reduceAdd]; omega) | (simp (disch := omega) only [sA_same, sA_ne, ud_eq, ud_ne, Int.add_zero, Int.reduceAdd]; omega)) (fun g3 => ?_) (fun g4 => ?_)
    · refine v_if_eq_n (n := 16) xB_185 dX11_can_13 (by decide) rfl (by decide) ?_
      refine v_aload_n (n := 17) xB_185 dX11_can_16 rfl rfl ?_
      refine v_iload_n (n := 18) xB_185 dX11_can_17 rfl rfl ?_
      refine v_iconst (n := 19) xB_185 dX11_can_18 ⟨by decide, by decide⟩ rfl ?_
      refine v_iconst (n := 20) xB_185 dX11_can_19 ⟨by decide, by decide⟩ rfl ?_
      refine v_call_v (n := 23) xB_185 dX11_can_20 xO_185 iv_11_221 rfl (sh_81 _ _ _) rfl rfl rfl ?_
      refine c_in (by omega)  (fun g5 => ?_) (fun g6 => ?_)
      · refine v_if_ne_y (t := 28) xB_185 dX11_can_23 (by decide) rfl (by decide) ?_
        refine v_aload_n (n := 29) xB_185 dX11_can_28 rfl rfl ?_
        refine v_gf_s (n := 32) (kz := 2) xB_185 dX11_can_29 xO_185 fl_11_17 fg_11_2 (sh_81 _ _ _) rfl st_81_2 rfl ?_
        refine v_iload_n (n := 33) xB_185 dX11_can_32 rfl rfl ?_
        refine v_iaload (n := 34) (lz := 5) xB_185 dX11_can_33 (sh_83 _ _ _) rfl (by first | omega | (simp only [sA_same, sA_s, ud_s, Int.reduceEq, if_true, if_false, ite_true, ite_false, ↓reduceIte, and_true, true_and, eq_self, Int.add_zero, Int.reduceAdd]; omega) | (simp (disch := omega) only [sA_same, sA_ne, ud_eq, ud_ne, Int.add_zero, Int.reduceAdd]; omega)) rfl ?_
        refine v_istore4 (n := 36) xB_185 dX11_can_34 rfl rfl ?_
        refine v_iconst (n := 37) xB_185 dX11_can_36 ⟨by decide, by decide⟩ rfl ?_
        refine v_istore5 (n := 39) xB_185 dX11_can_37 rfl rfl ?_
        refine v_bipush (n := 41) xB_185 dX11_can_39 ⟨by decide, by decide⟩ rfl ?_
        refine v_istore6 (n := 43) xB_185 dX11_can_41 rfl rfl ?_
        refine v_bipush (n := 45) xB_185 dX11_can_43 ⟨by decide, by decide⟩ rfl ?_
        refine v_istore7 (n := 47) xB_185 dX11_can_45 rfl rfl ?_
        refine lp_dn (F := fun (k : Int) (m' : PM) => ∀ mo : Int, mo = (itN (CS m CF t j) (9 - (k)).toNat (0, -5)).1 ∧ 0 ≤ mo ∧ mo ≤ 9 - k → ∀ fi : Int, fi = (itN (CS m CF t j) (9 - (k)).toNat (0, -5)).2 → V d 185 (47, ([some (.inr (.inr 81)), some (.inl t), some (.inl j), some (.inl x), some (.inl (m 83 t)), some (.inl mo), some (.inl fi), some (.inl (k))], ([], (m', (none, (dy, L)))))) Q) (E := fun (k : Int) (m' : PM) => ∃ z : Int, (0 ≤ z ∧ z ≤ 9) ∧ RFr (setA m 83 (ud (m 83) t z)) (m')) (a := -1) (b := 9) ?_ ?_ (9) (_) (by first | omega | (simp only [sA_same, sA_s, ud_s, Int.reduceEq, if_true, if_false, ite_true, ite_false, ↓reduceIte, and_true, true_and, eq_self, Int.add_zero, Int.reduceAdd]; omega) | (simp (disch := omega) only [sA_same, sA_ne, ud_eq, ud_ne, Int.add_zero, Int.reduceAdd]; omega)) (by first | omega | (simp only [sA_same, sA_s, ud_s, Int.reduceEq, if_true, if_false, ite_true, ite_false, ↓reduceIte, and_true, true_and, eq_self, Int.add_zero, Int.reduceAdd]; omega) | (simp (disch := omega) only [sA_same, sA_ne, ud_eq, ud_ne, Int.add_zero, Int.reduceAdd]; omega)) ?_ _ ⟨rfl, Int.le_refl 0, Int.le_refl 0⟩ _ rfl
        · intro m' hm mo hmo fi hfi
          show V d 185 (47, ([some (.inr (.inr 81)), some (.inl t), some (.inl j), some (.inl x), some (.inl (m 83 t)), some (.inl mo), some (.inl fi), some (.inl (-1))], ([], (m', (none, (dy, L)))))) Q
          obtain ⟨z, hz, hm1⟩ := hm
          have e0 : m' 81 0 = m 81 0 := by rw [hm1.2.1 0 (by omega), sA_ne (by omega)]
          have e5 : m' 81 5 = m 81 5 := by rw [hm1.2.1 5 (by omega), sA_ne (by omega)]
          have e83 : m' 83 = ud (m 83) t z := by rw [hm1.1 83 (by omega) (by omega), sA_same]
          refine v_iload (n := 49) xB_185 dX11_can_47 rfl rfl ?_
          refine v_if_lt_y (t := 85) xB_185 dX11_can_49 (by decide) rfl (by first | omega | (simp only [sA_same, sA_s, ud_s, Int.reduceEq, if_true, if_false, ite_true, ite_false, ↓reduceIte, and_true, true_and, eq_self, Int.add_zero, Int.reduceAdd]; omega) | (simp (disch := omega) only [sA_same, sA_ne, ud_eq, ud_ne, Int.add_zero, Int.reduceAdd]; omega)) ?_
          refine v_aload_n (n := 86) xB_185 dX11_can_85 rfl rfl ?_
          refine v_gf_s (n := 89) (kz := 2) xB_185 dX11_can_86 xO_185 fl_11_17 fg_11_2 (sh_81 _ _ _) rfl st_81_2 rfl ?_
          refine v_iload_n (n := 90) xB_185 dX11_can_89 rfl rfl ?_
          refine v_iload (n := 92) xB_185 dX11_can_90 rfl rfl ?_
          refine v_iastore (n := 93) (lz := 5) xB_185 dX11_can_92 (sh_83 _ _ _) (by decide) rfl (by first | omega | (simp only [sA_same, sA_s, ud_s, Int.reduceEq, if_true, if_false, ite_true, ite_false, ↓reduceIte, and_true, true_and, eq_self, Int.add_zero, Int.reduceAdd]; omega) | (simp (disch := omega) only [sA_same, sA_ne, ud_eq, ud_ne, Int.add_zero, Int.reduceAdd]; omega)) rfl ?_
          refine v_iload_n (n := 94) xB_185 dX11_can_93 rfl rfl ?_
          refine v_if_ne (t := 102) (n := 97) xB_185 dX11_can_94 (by decide) rfl rfl (fun g1 => ?_) (fun g1 => ?_)
          · refine v_iload (n := 104) xB_185 dX11_can_102 rfl rfl ?_
            refine v_ireturn0 xB_185 dX11_can_104 xK_185 ?_
            refine q_eqI (o1 _ ?_) ?_
            · have hf := RFr_83 (g := m 83) hm1
              rw [sA_id] at hf
              rw [show setA m' 83 (ud (m' 83) t (m 83 t)) = setA m' 83 (m 83) by rw [e83, ud_ud, ud_id]]
              exact hf
            · unfold CA
              rw [if_pos (by omega)]
              first | (rw [if_pos (by omega)]; exact hmo.1.symm) | (rw [if_neg (by omega)]; exact hfi.symm)
          · refine v_iload (n := 99) xB_185 dX11_can_97 rfl rfl ?_
            refine v_goto (t := 104) xB_185 dX11_can_99 (by decide) rfl ?_
            refine v_ireturn0 xB_185 dX11_can_104 xK_185 ?_
            refine q_eqI (o1 _ ?_) ?_
            · have hf := RFr_83 (g := m 83) hm1
              rw [sA_id] at hf
              rw [show setA m' 83 (ud (m' 83) t (m 83 t)) = setA m' 83 (m 83) by rw [e83, ud_ud, ud_id]]
              exact hf
            · unfold CA
              rw [if_pos (by omega)]
              first | (rw [if_pos (by omega)]; exact hmo.1.symm) | (rw [if_neg (by omega)]; exact hfi.symm)
        · intro k m' h1 h2 hm ih mo hmo fi hfi
          show V d 185 (47, ([some (.inr (.inr 81)), some (.inl t), some (.inl j), some (.inl x), some (.inl (m 83 t)), some (.inl mo), some (.inl fi), some (.inl (k))], ([], (m', (none, (dy, L)))))) Q
          obtain ⟨z, hz, hm1⟩ := hm
          have e0 : m' 81 0 = m 81 0 := by rw [hm1.2.1 0 (by omega), sA_ne (by omega)]
          have e5 : m' 81 5 = m 81 5 := by rw [hm1.2.1 5 (by omega), sA_ne (by omega)]
          have e83 : m' 83 = ud (m 83) t z := by rw [hm1.1 83 (by omega) (by omega), sA_same]
          refine v_iload (n := 49) xB_185 dX11_can_47 rfl rfl ?_
          refine v_if_lt_n (n := 52) xB_185 dX11_can_49 (by decide) rfl (by first | omega | (simp only [sA_same, sA_s, ud_s, Int.reduceEq, if_true, if_false, ite_true, ite_false, ↓reduceIte, and_true, true_and, eq_self, Int.add_zero, Int.reduceAdd]; omega) | (simp (disch := omega) only [sA_same, sA_ne, ud_eq, ud_ne, Int.add_zero, Int.reduceAdd]; omega)) ?_
          refine v_aload_n (n := 53) xB_185 dX11_can_52 rfl rfl ?_
          refine v_gf_s (n := 56) (kz := 2) xB_185 dX11_can_53 xO_185 fl_11_17 fg_11_2 (sh_81 _ _ _) rfl st_81_2 rfl ?_
          refine v_iload_n (n := 57) xB_185 dX11_can_56 rfl rfl ?_
          refine v_iload (n := 59) xB_185 dX11_can_57 rfl rfl ?_
          refine v_iastore (n := 60) (lz := 5) xB_185 dX11_can_59 (sh_83 _ _ _) (by decide) rfl (by first | omega | (simp only [sA_same, sA_s, ud_s, Int.reduceEq, if_true, if_false, ite_true, ite_false, ↓reduceIte, and_true, true_and, eq_self, Int.add_zero, Int.reduceAdd]; omega) | (simp (disch := omega) only [sA_same, sA_ne, ud_eq, ud_ne, Int.add_zero, Int.reduceAdd]; omega)) rfl ?_
          rw [show setA m' 83 (ud (m' 83) t k) = setA m' 83 (ud (m 83) t k) by rw [e83, ud_ud]]
          have hmk := RFr_83 (g := ud (m 83) t k) hm1
          have r9 := RI_R (RI_83 (t := t) hR0 (z := k) (by omega)) hmk
          have q83 : setA m' 83 (ud (m 83) t k) 83 t = k := by rw [sA_same, ud_eq]
          have q0 : setA m' 83 (ud (m 83) t k) 81 0 = m 81 0 := by rw [sA_ne (by omega)]; exact e0
          have q5 : setA m' 83 (ud (m 83) t k) 81 5 = m 81 5 := by rw [sA_ne (by omega)]; exact e5
          refine v_aload_n (n := 61) xB_185 dX11_can_60 rfl rfl ?_
          refine v_iload_n (n := 62) xB_185 dX11_can_61 rfl rfl ?_
          refine v_iload_n (n := 63) xB_185 dX11_can_62 rfl rfl ?_
          refine v_call_v (n := 66) xB_185 dX11_can_63 xO_185 iv_11_371 rfl (sh_81 _ _ _) rfl rfl rfl ?_
          refine c_isSeenAfter (by omega) r9 (by first | omega | (simp only [sA_same, sA_s, ud_s, Int.reduceEq, if_true, if_false, ite_true, ite_false, ↓reduceIte, and_true, true_and, eq_self, Int.add_zero, Int.reduceAdd]; omega) | (simp (disch := omega) only [sA_same, sA_ne, ud_eq, ud_ne, Int.add_zero, Int.reduceAdd]; omega)) (by first | omega | (simp only [sA_same, sA_s, ud_s, Int.reduceEq, if_true, if_false, ite_true, ite_false, ↓reduceIte, and_true, true_and, eq_self, Int.add_zero, Int.reduceAdd]; omega) | (simp (disch := omega) only [sA_same, sA_ne, ud_eq, ud_ne, Int.add_zero, Int.reduceAdd]; omega)) (fun mA hA gS => ?_) (fun mA hA gS => ?_)
          · refine v_if_ne_y (t := 72) xB_185 dX11_can_66 (by decide) rfl (by decide) ?_
            refine v_iinc5 (n := 75) xB_185 dX11_can_72 rfl (by first | omega | (simp only [sA_same, sA_s, ud_s, Int.reduceEq, if_true, if_false, ite_true, ite_false, ↓reduceIte, and_true, true_and, eq_self, Int.add_zero, Int.reduceAdd]; omega) | (simp (disch := omega) only [sA_same, sA_ne, ud_eq, ud_ne, Int.add_zero, Int.reduceAdd]; omega)) rfl ?_
            refine v_iload (n := 77) xB_185 dX11_can_75 rfl rfl ?_
            refine v_istore6 (n := 79) xB_185 dX11_can_77 rfl rfl ?_
            refine v_iinc7 (n := 82) xB_185 dX11_can_79 rfl (by first | omega | (simp only [sA_same, sA_s, ud_s, Int.reduceEq, if_true, if_false, ite_true, ite_false, ↓reduceIte, and_true, true_and, eq_self, Int.add_zero, Int.reduceAdd]; omega) | (simp (disch := omega) only [sA_same, sA_ne, ud_eq, ud_ne, Int.add_zero, Int.reduceAdd]; omega)) rfl ?_
            refine v_goto (t := 47) xB_185 dX11_can_82 (by decide) rfl ?_
            have hm2 : ∃ z : Int, (0 ≤ z ∧ z ≤ 9) ∧ RFr (setA m 83 (ud (m 83) t z)) mA := ⟨k, by omega, RFr_trans hmk hA⟩
            rw [SB_AE (AE_R hmk), SB_83, q83] at gS
            first
            | exact ih _ hm2 _ ⟨by rw [CS_s h2, CS_y gS h2, ← hmo.1], by omega⟩ _ (by rw [CS_s h2, CS_y gS h2])
            | exact ih _ hm2 _ ⟨by rw [CS_s h2, CS_n gS h2, ← hmo.1], by omega⟩ _ (by rw [CS_s h2, CS_n gS h2, ← hfi])
          · refine v_if_ne_n (n := 69) xB_185 dX11_can_66 (by decide) rfl (by decide) ?_
            refine v_goto (t := 79) xB_185 dX11_can_69 (by decide) rfl ?_
            refine v_iinc7 (n := 82) xB_185 dX11_can_79 rfl (by first | omega | (simp only [sA_same, sA_s, ud_s, Int.reduceEq, if_true, if_false, ite_true, ite_false, ↓reduceIte, and_true, true_and, eq_self, Int.add_zero, Int.reduceAdd]; omega) | (simp (disch := omega) only [sA_same, sA_ne, ud_eq, ud_ne, Int.add_zero, Int.reduceAdd]; omega)) rfl ?_
            refine v_goto (t := 47) xB_185 dX11_can_82 (by decide) rfl ?_
            have hm2 : ∃ z : Int, (0 ≤ z ∧ z ≤ 9) ∧ RFr (setA m 83 (ud (m 83) t z)) mA := ⟨k, by omega, RFr_trans hmk hA⟩
            rw [SB_AE (AE_R hmk), SB_83, q83] at gS
            first
            | exact ih _ hm2 _ ⟨by rw [CS_s h2, CS_y gS h2, ← hmo.1], by omega⟩ _ (by rw [CS_s h2, CS_y gS h2])
            | exact ih _ hm2 _ ⟨by rw [CS_s h2, CS_n gS h2, ← hmo.1], by omega⟩ _ (by rw [CS_s h2, CS_n gS h2, ← hfi])
        · exact ⟨m 83 t, (v1 t (by omega) (by omega)).2, by rw [ud_id, sA_id]; exact RI_refl hR0⟩
      · refine v_if_ne_n (n := 26) xB_185 dX11_can_23 (by decide) rfl (by decide) ?_
        refine v_iconst (n := 27) xB_185 dX11_can_26 ⟨by decide, by decide⟩ rfl ?_
        refine v_ireturn0 xB_185 dX11_can_27 xK_185 ?_
        refine q_eqI (o1 _ (RI_refl hR0)) ?_
        unfold CA
        rw [if_neg (by omega)]
    · refine v_if_eq_y (t := 26) xB_185 dX11_can_13 (by decide) rfl (by decide) ?_
      refine v_iconst (n := 27) xB_185 dX11_can_26 ⟨by decide, by decide⟩ rfl ?_
      refine v_ireturn0 xB_185 dX11_can_27 xK_185 ?_
      refine q_eqI (o1 _ (RI_refl hR0)) ?_
      unfold CA
      rw [if_neg (by omega)]
  · refine v_if_eq_y (t := 26) xB_185 dX11_can_5 (by decide) rfl (by decide) ?_
    refine v_iconst (n := 27) xB_185 dX11_can_26 ⟨by decide, by decide⟩ rfl ?_
    refine v_ireturn0 xB_185 dX11_can_27 xK_185 ?_
    refine q_eqI (o1 _ (RI_refl hR0)) ?_
    unfold CA
    rw [if_neg (by omega)]
set_option maxHeartbeats 2000000 in
theorem vc_tw3 {d : Nat} {CF : Int → CLs} {j o x : Int} {m : PM} {dy : List (Nat × Nat)} {L : Nat} {Q : Option PV → PS → Prop} (hd : 6 ≤ d) {t w : Int} (ht : 0 ≤ t ∧ t < m 81 0) (hw : 0 ≤ w ∧ w < 4) (hR0 : RI m CF) (hj : 0 ≤ j ∧ j < m 81 5) (ho : 0 ≤ o ∧ o < m 81 5) (hx : 0 ≤ x ∧ x ≤ 1) {mo fi : Int} {m1 : PM} (hm0 : RFr m (m1)) (hmo0 : mo = (itN (fun w s => itN (fun u s => upS (R2 m CF (w) u o (RA m CF (t) (m 83 (t)) j)) (100 * (t) + 10 * (w) + u) s) (m 81 0).toNat s) (w).toNat (itN (fun t s => itN (fun w s => itN (fun u s => upS (R2 m CF (w) u o (RA m CF (t) (m 83 (t)) j)) (100 * (t) + 10 * (w) + u) s) (m 81 0).toNat s) 4 s) (t).toNat (-1, -5))).1) (hfi0 : fi = (itN (fun w s => itN (fun u s => upS (R2 m CF (w) u o (RA m CF (t) (m 83 (t)) j)) (100 * (t) + 10 * (w) + u) s) (m 81 0).toNat s) (w).toNat (itN (fun t s => itN (fun w s => itN (fun u s => upS (R2 m CF (w) u o (RA m CF (t) (m 83 (t)) j)) (100 * (t) + 10 * (w) + u) s) (m 81 0).toNat s) 4 s) (t).toNat (-1, -5))).2) (x9 : Option PV) (go : ∀ (m' : PM) (mo fi : Int) (x8 x9 : Option PV), (RFr m (m')) → mo = (itN (fun w s => itN (fun u s => upS (R2 m CF (w) u o (RA m CF (t) (m 83 (t)) j)) (100 * (t) + 10 * (w) + u) s) (m 81 0).toNat s) (w + 1).toNat (itN (fun t s => itN (fun w s => itN (fun u s => upS (R2 m CF (w) u o (RA m CF (t) (m 83 (t)) j)) (100 * (t) + 10 * (w) + u) s) (m 81 0).toNat s) 4 s) (t).toNat (-1, -5))).1 → fi = (itN (fun w s => itN (fun u s => upS (R2 m CF (w) u o (RA m CF (t) (m 83 (t)) j)) (100 * (t) + 10 * (w) + u) s) (m 81 0).toNat s) (w + 1).toNat (itN (fun t s => itN (fun w s => itN (fun u s => upS (R2 m CF (w) u o (RA m CF (t) (m 83 (t)) j)) (100 * (t) + 10 * (w) + u) s) (m 81 0).toNat s) 4 s) (t).toNat (-1, -5))).2 → V d 178 (118, ([some (.inr (.inr 81)), some (.inl j), some (.inl o), some (.inl x), some (.inl fi), some (.inl mo), some (.inl t), some (.inl w), x8, x9], ([], (m', (none, (dy, L)))))) Q) : V d 178 (59, ([some (.inr (.inr 81)), some (.inl j), some (.inl o), some (.inl x), some (.inl fi), some (.inl mo), some (.inl (t)), some (.inl (w)), some (.inl (0)), x9], ([], (m1, (none, (dy, L)))))) Q := by
  have s1 := hR0.1
  have t1 := hR0.2.1
  have j1 := hR0.2.2.1
  refine lp_up (F := fun (k : Int) (m' : PM) => ∀ x9 : Option PV, ∀ mo : Int, mo = (itN (fun u s => upS (R2 m CF (w) u o (RA m CF (t) (m 83 (t)) j)) (100 * (t) + 10 * (w) + u) s) (k).toNat (itN (fun w s => itN (fun u s => upS (R2 m CF (w) u o (RA m CF (t) (m 83 (t)) j)) (100 * (t) + 10 * (w) + u) s) (m 81 0).toNat s) (w).toNat (itN (fun t s => itN (fun w s => itN (fun u s => upS (R2 m CF (w) u o (RA m CF (t) (m 83 (t)) j)) (100 * (t) + 10 * (w) + u) s) (m 81 0).toNat s) 4 s) (t).toNat (-1, -5)))).1 → ∀ fi : Int, fi = (itN (fun u s => upS (R2 m CF (w) u o (RA m CF (t) (m 83 (t)) j)) (100 * (t) + 10 * (w) + u) s) (k).toNat (itN (fun w s => itN (fun u s => upS (R2 m CF (w) u o (RA m CF (t) (m 83 (t)) j)) (100 * (t) + 10 * (w) + u) s) (m 81 0).toNat s) (w).toNat (itN (fun t s => itN (fun w s => itN (fun u s => upS (R2 m CF (w) u o (RA m CF (t) (m 83 (t)) j)) (100 * (t) + 10 * (w) + u) s) (m 81 0).toNat s) 4 s) (t).toNat (-1, -5)))).2 → V d 178 (59, ([some (.inr (.inr 81)), some (.inl j), some (.inl o), some (.inl x), some (.inl fi), some (.inl mo), some (.inl (t)), some (.inl (w)), some (.inl (k)), x9], ([], (m', (none, (dy, L)))))) Q) (E := fun (k : Int) (m' : PM) => RFr m (m')) (a := 0) (b := m 81 0) ?_ ?_ (0) (m1) (by first | omega | (simp only [sA_same, sA_s, ud_s, Int.reduceEq, if_true, if_false, ite_true, ite_false, ↓reduceIte, and_true, true_and, eq_self, Int.add_zero, Int.reduceAdd]; omega) | (simp (disch := omega) only [sA_same, sA_ne, ud_eq, ud_ne, Int.add_zero, Int.reduceAdd]; omega)) (by first | omega | (simp only [sA_same, sA_s, ud_s, Int.reduceEq, if_true, if_false, ite_true, ite_false, ↓reduceIte, and_true, true_and, eq_self, Int.add_zero, Int.reduceAdd]; omega) | (simp (disch := omega) only [sA_same, sA_ne, ud_eq, ud_ne, Int.add_zero, Int.reduceAdd]; omega)) ?_ _ _ (by rw [itN_0]; exact hmo0) _ (by rw [itN_0]; exact hfi0)
  · intro m' hm x9 mo hmo fi hfi
    show V d 178 (59, ([some (.inr (.inr 81)), some (.inl j), some (.inl o), some (.inl x), some (.inl fi), some (.inl mo), some (.inl (t)), some (.inl (w)), some (.inl (m 81 0)), x9], ([], (m', (none, (dy, L)))))) Q
    have e0 : m' 81 0 = m 81 0 := hm.2.1 0 (by omega)
    have e5 : m' 81 5 = m 81 5 := hm.2.1 5 (by omega)
    have e22 : m' 81 22 = m 81 22 := hm.2.1 22 (by omega)
    refine v_iload (n := 61) xB_178 dX11_twice_59 rfl rfl ?_
    refine v_aload_n (n := 62) xB_178 dX11_twice_61 rfl rfl ?_
    refine v_gf_i (n := 65) (kz := 0) xB_178 dX11_twice_62 xO_178 fl_11_7 fg_11_0 rfl (sh_81 _ _ _) rfl rfl ?_
    refine v_ic_ge_y (t := 118) xB_178 dX11_twice_65 (by decide) rfl (by first | omega | (simp only [sA_same, sA_s, ud_s, Int.reduceEq, if_true, if_false, ite_true, ite_false, ↓reduceIte, and_true, true_and, eq_self, Int.add_zero, Int.reduceAdd]; omega) | (simp (disch := omega) only [sA_same, sA_ne, ud_eq, ud_ne, Int.add_zero, Int.reduceAdd]; omega)) ?_
    exact go m' mo fi _ _ hm (by rw [itN_s hw.1]; exact hmo) (by rw [itN_s hw.1]; exact hfi)
  · intro k m' h1 h2 hm ih x9 mo hmo fi hfi
    show V d 178 (59, ([some (.inr (.inr 81)), some (.inl j), some (.inl o), some (.inl x), some (.inl fi), some (.inl mo), some (.inl (t)), some (.inl (w)), some (.inl (k)), x9], ([], (m', (none, (dy, L)))))) Q
    have e0 : m' 81 0 = m 81 0 := hm.2.1 0 (by omega)
    have e5 : m' 81 5 = m 81 5 := hm.2.1 5 (by omega)
    have e22 : m' 81 22 = m 81 22 := hm.2.1 22 (by omega)
    have e83 : m' 83 = m 83 := hm.1 83 (by omega) (by omega)
    refine v_iload (n := 61) xB_178 dX11_twice_59 rfl rfl ?_
    refine v_aload_n (n := 62) xB_178 dX11_twice_61 rfl rfl ?_
    refine v_gf_i (n := 65) (kz := 0) xB_178 dX11_twice_62 xO_178 fl_11_7 fg_11_0 rfl (sh_81 _ _ _) rfl rfl ?_
    refine v_ic_ge_n (n := 68) xB_178 dX11_twice_65 (by decide) rfl (by first | omega | (simp only [sA_same, sA_s, ud_s, Int.reduceEq, if_true, if_false, ite_true, ite_false, ↓reduceIte, and_true, true_and, eq_self, Int.add_zero, Int.reduceAdd]; omega) | (simp (disch := omega) only [sA_same, sA_ne, ud_eq, ud_ne, Int.add_zero, Int.reduceAdd]; omega)) ?_
    refine v_aload_n (n := 69) xB_178 dX11_twice_68 rfl rfl ?_
    refine v_iload (n := 71) xB_178 dX11_twice_69 rfl rfl ?_
    refine v_iload_n (n := 72) xB_178 dX11_twice_71 rfl rfl ?_
    refine v_iload (n := 74) xB_178 dX11_twice_72 rfl rfl ?_
    refine v_iload (n := 76) xB_178 dX11_twice_74 rfl rfl ?_
    refine v_iload_n (n := 77) xB_178 dX11_twice_76 rfl rfl ?_
    refine v_call_v (n := 80) xB_178 dX11_twice_77 xO_178 iv_11_361 rfl (sh_81 _ _ _) rfl rfl rfl ?_
    refine c_rightTwice (by omega) (RI_R hR0 hm) (by first | omega | (simp only [sA_same, sA_s, ud_s, Int.reduceEq, if_true, if_false, ite_true, ite_false, ↓reduceIte, and_true, true_and, eq_self, Int.add_zero, Int.reduceAdd]; omega) | (simp (disch := omega) only [sA_same, sA_ne, ud_eq, ud_ne, Int.add_zero, Int.reduceAdd]; omega)) (by first | omega | (simp only [sA_same, sA_s, ud_s, Int.reduceEq, if_true, if_false, ite_true, ite_false, ↓reduceIte, and_true, true_and, eq_self, Int.add_zero, Int.reduceAdd]; omega) | (simp (disch := omega) only [sA_same, sA_ne, ud_eq, ud_ne, Int.add_zero, Int.reduceAdd]; omega)) (by first | omega | (simp only [sA_same, sA_s, ud_s, Int.reduceEq, if_true, if_false, ite_true, ite_false, ↓reduceIte, and_true, true_and, eq_self, Int.add_zero, Int.reduceAdd]; omega) | (simp (disch := omega) only [sA_same, sA_ne, ud_eq, ud_ne, Int.add_zero, Int.reduceAdd]; omega)) (by first | omega | (simp only [sA_same, sA_s, ud_s, Int.reduceEq, if_true, if_false, ite_true, ite_false, ↓reduceIte, and_true, true_and, eq_self, Int.add_zero, Int.reduceAdd]; omega) | (simp (disch := omega) only [sA_same, sA_ne, ud_eq, ud_ne, Int.add_zero, Int.reduceAdd]; omega)) (by first | omega | (simp only [sA_same, sA_s, ud_s, Int.reduceEq, if_true, if_false, ite_true, ite_false, ↓reduceIte, and_true, true_and, eq_self, Int.add_zero, Int.reduceAdd]; omega) | (simp (disch := omega) only [sA_same, sA_ne, ud_eq, ud_ne, Int.add_zero, Int.reduceAdd]; omega)) (fun mA hA => ?_)
    have hm2 := RFr_trans hm hA
    rw [R2_AE (AE_R hm), RA_AE (AE_R hm), e83]
    refine v_istore9 (n := 82) xB_178 dX11_twice_80 rfl rfl ?_
    refine v_iload (n := 84) xB_178 dX11_twice_82 rfl rfl ?_
    refine v_iload (n := 86) xB_178 dX11_twice_84 rfl rfl ?_
    refine v_ic_gt (t := 92) (n := 89) xB_178 dX11_twice_86 (by decide) rfl rfl (fun g1 => ?_) (fun g1 => ?_)
    · refine v_bipush (n := 94) xB_178 dX11_twice_92 ⟨by decide, by decide⟩ rfl ?_
      refine v_iload (n := 96) xB_178 dX11_twice_94 rfl rfl ?_
      refine v_imul (n := 97) xB_178 dX11_twice_96 (by first | omega | (simp only [sA_same, sA_s, ud_s, Int.reduceEq, if_true, if_false, ite_true, ite_false, ↓reduceIte, and_true, true_and, eq_self, Int.add_zero, Int.reduceAdd]; omega) | (simp (disch := omega) only [sA_same, sA_ne, ud_eq, ud_ne, Int.add_zero, Int.reduceAdd]; omega)) rfl ?_
      refine v_bipush (n := 99) xB_178 dX11_twice_97 ⟨by decide, by decide⟩ rfl ?_
      refine v_iload (n := 101) xB_178 dX11_twice_99 rfl rfl ?_
      refine v_imul (n := 102) xB_178 dX11_twice_101 (by first | omega | (simp only [sA_same, sA_s, ud_s, Int.reduceEq, if_true, if_false, ite_true, ite_false, ↓reduceIte, and_true, true_and, eq_self, Int.add_zero, Int.reduceAdd]; omega) | (simp (disch := omega) only [sA_same, sA_ne, ud_eq, ud_ne, Int.add_zero, Int.reduceAdd]; omega)) rfl ?_
      refine v_iadd (n := 103) xB_178 dX11_twice_102 (by first | omega | (simp only [sA_same, sA_s, ud_s, Int.reduceEq, if_true, if_false, ite_true, ite_false, ↓reduceIte, and_true, true_and, eq_self, Int.add_zero, Int.reduceAdd]; omega) | (simp (disch := omega) only [sA_same, sA_ne, ud_eq, ud_ne, Int.add_zero, Int.reduceAdd]; omega)) rfl ?_
      refine v_iload (n := 105) xB_178 dX11_twice_103 rfl rfl ?_
      refine v_iadd (n := 106) xB_178 dX11_twice_105 (by first | omega | (simp only [sA_same, sA_s, ud_s, Int.reduceEq, if_true, if_false, ite_true, ite_false, ↓reduceIte, and_true, true_and, eq_self, Int.add_zero, Int.reduceAdd]; omega) | (simp (disch := omega) only [sA_same, sA_ne, ud_eq, ud_ne, Int.add_zero, Int.reduceAdd]; omega)) rfl ?_
      refine v_istore4 (n := 108) xB_178 dX11_twice_106 rfl rfl ?_
      refine v_iload (n := 110) xB_178 dX11_twice_108 rfl rfl ?_
      refine v_istore5 (n := 112) xB_178 dX11_twice_110 rfl rfl ?_
      refine v_iinc8 (n := 115) xB_178 dX11_twice_112 rfl (by first | omega | (simp only [sA_same, sA_s, ud_s, Int.reduceEq, if_true, if_false, ite_true, ite_false, ↓reduceIte, and_true, true_and, eq_self, Int.add_zero, Int.reduceAdd]; omega) | (simp (disch := omega) only [sA_same, sA_ne, ud_eq, ud_ne, Int.add_zero, Int.reduceAdd]; omega)) rfl ?_
      refine v_goto (t := 59) xB_178 dX11_twice_115 (by decide) rfl ?_
      first
      | exact ih _ hm2 _ _ (by rw [itN_s h1, upS_n (by (try dsimp only); rw [← hmo]; omega)]; exact hmo) _ (by rw [itN_s h1, upS_n (by (try dsimp only); rw [← hmo]; omega)]; exact hfi)
      | exact ih _ hm2 _ _ (by rw [itN_s h1, upS_y (by (try dsimp only); rw [← hmo]; omega)]) _ (by rw [itN_s h1, upS_y (by (try dsimp only); rw [← hmo]; omega)])
    · refine v_goto (t := 112) xB_178 dX11_twice_89 (by decide) rfl ?_
      refine v_iinc8 (n := 115) xB_178 dX11_twice_112 rfl (by first | omega | (simp only [sA_same, sA_s, ud_s, Int.reduceEq, if_true, if_false, ite_true, ite_false, ↓reduceIte, and_true, true_and, eq_self, Int.add_zero, Int.reduceAdd]; omega) | (simp (disch := omega) only [sA_same, sA_ne, ud_eq, ud_ne, Int.add_zero, Int.reduceAdd]; omega)) rfl ?_
      refine v_goto (t := 59) xB_178 dX11_twice_115 (by decide) rfl ?_
      first
      | exact ih _ hm2 _ _ (by rw [itN_s h1, upS_n (by (try dsimp only); rw [← hmo]; omega)]; exact hmo) _ (by rw [itN_s h1, upS_n (by (try dsimp only); rw [← hmo]; omega)]; exact hfi)
      | exact ih _ hm2 _ _ (by rw [itN_s h1, upS_y (by (try dsimp only); rw [← hmo]; omega)]) _ (by rw [itN_s h1, upS_y (by (try dsimp only); rw [← hmo]; omega)])
  · exact hm0
set_option maxHeartbeats 2000000 in
theorem vc_tw2 {d : Nat} {CF : Int → CLs} {j o x : Int} {m : PM} {dy : List (Nat × Nat)} {L : Nat} {Q : Option PV → PS → Prop} (hd : 6 ≤ d) {t : Int} (ht : 0 ≤ t ∧ t < m 81 0) (hR0 : RI m CF) (hj : 0 ≤ j ∧ j < m 81 5) (ho : 0 ≤ o ∧ o < m 81 5) (hx : 0 ≤ x ∧ x ≤ 1) {mo fi : Int} {m1 : PM} (hm0 : RFr m (m1)) (hmo0 : mo = (itN (fun t s => itN (fun w s => itN (fun u s => upS (R2 m CF (w) u o (RA m CF (t) (m 83 (t)) j)) (100 * (t) + 10 * (w) + u) s) (m 81 0).toNat s) 4 s) (t).toNat (-1, -5)).1) (hfi0 : fi = (itN (fun t s => itN (fun w s => itN (fun u s => upS (R2 m CF (w) u o (RA m CF (t) (m 83 (t)) j)) (100 * (t) + 10 * (w) + u) s) (m 81 0).toNat s) 4 s) (t).toNat (-1, -5)).2) (x8 x9 : Option PV) (go : ∀ (m' : PM) (mo fi : Int) (x8 x9 : Option PV), RFr m m' → mo = (itN (fun t s => itN (fun w s => itN (fun u s => upS (R2 m CF (w) u o (RA m CF (t) (m 83 (t)) j)) (100 * (t) + 10 * (w) + u) s) (m 81 0).toNat s) 4 s) (t + 1).toNat (-1, -5)).1 → fi = (itN (fun t s => itN (fun w s => itN (fun u s => upS (R2 m CF (w) u o (RA m CF (t) (m 83 (t)) j)) (100 * (t) + 10 * (w) + u) s) (m 81 0).toNat s) 4 s) (t + 1).toNat (-1, -5)).2 → V d 178 (124, ([some (.inr (.inr 81)), some (.inl j), some (.inl o), some (.inl x), some (.inl fi), some (.inl mo), some (.inl t), some (.inl 4), x8, x9], ([], (m', (none, (dy, L)))))) Q) : V d 178 (50, ([some (.inr (.inr 81)), some (.inl j), some (.inl o), some (.inl x), some (.inl fi), some (.inl mo), some (.inl (t)), some (.inl (0)), x8, x9], ([], (m1, (none, (dy, L)))))) Q := by
  refine lp_up (F := fun (k : Int) (m' : PM) => ∀ x8 x9 : Option PV, ∀ mo : Int, mo = (itN (fun w s => itN (fun u s => upS (R2 m CF (w) u o (RA m CF (t) (m 83 (t)) j)) (100 * (t) + 10 * (w) + u) s) (m 81 0).toNat s) (k).toNat (itN (fun t s => itN (fun w s => itN (fun u s => upS (R2 m CF (w) u o (RA m CF (t) (m 83 (t)) j)) (100 * (t) + 10 * (w) + u) s) (m 81 0).toNat s) 4 s) (t).toNat (-1, -5))).1 → ∀ fi : Int, fi = (itN (fun w s => itN (fun u s => upS (R2 m CF (w) u o (RA m CF (t) (m 83 (t)) j)) (100 * (t) + 10 * (w) + u) s) (m 81 0).toNat s) (k).toNat (itN (fun t s => itN (fun w s => itN (fun u s => upS (R2 m CF (w) u o (RA m CF (t) (m 83 (t)) j)) (100 * (t) + 10 * (w) + u) s) (m 81 0).toNat s) 4 s) (t).toNat (-1, -5))).2 → V d 178 (50, ([some (.inr (.inr 81)), some (.inl j), some (.inl o), some (.inl x), some (.inl fi), some (.inl mo), some (.inl (t)), some (.inl (k)), x8, x9], ([], (m', (none, (dy, L)))))) Q) (E := fun (k : Int) (m' : PM) => RFr m (m')) (a := 0) (b := 4) ?_ ?_ (0) (m1) (by first | omega | (simp only [sA_same, sA_s, ud_s, Int.reduceEq, if_true, if_false, ite_true, ite_false, ↓reduceIte, and_true, true_and, eq_self, Int.add_zero, Int.reduceAdd]; omega) | (simp (disch := omega) only [sA_same, sA_ne, ud_eq, ud_ne, Int.add_zero, Int.reduceAdd]; omega)) (by first | omega | (simp only [sA_same, sA_s, ud_s, Int.reduceEq, if_true, if_false, ite_true, ite_false, ↓reduceIte, and_true, true_and, eq_self, Int.add_zero, Int.reduceAdd]; omega) | (simp (disch := omega) only [sA_same, sA_ne, ud_eq, ud_ne, Int.add_zero, Int.reduceAdd]; omega)) ?_ _ _ _ (by rw [itN_0]; exact hmo0) _ (by rw [itN_0]; exact hfi0)
  · intro m' hm x8 x9 mo hmo fi hfi
    show V d 178 (50, ([some (.inr (.inr 81)), some (.inl j), some (.inl o), some (.inl x), some (.inl fi), some (.inl mo), some (.inl (t)), some (.inl (4)), x8, x9], ([], (m', (none, (dy, L)))))) Q
    have e0 : m' 81 0 = m 81 0 := hm.2.1 0 (by omega)
    have e5 : m' 81 5 = m 81 5 := hm.2.1 5 (by omega)
    have e22 : m' 81 22 = m 81 22 := hm.2.1 22 (by omega)
    refine v_iload (n := 52) xB_178 dX11_twice_50 rfl rfl ?_
    refine v_iconst (n := 53) xB_178 dX11_twice_52 ⟨by decide, by decide⟩ rfl ?_
    refine v_ic_ge_y (t := 124) xB_178 dX11_twice_53 (by decide) rfl (by first | omega | (simp only [sA_same, sA_s, ud_s, Int.reduceEq, if_true, if_false, ite_true, ite_false, ↓reduceIte, and_true, true_and, eq_self, Int.add_zero, Int.reduceAdd]; omega) | (simp (disch := omega) only [sA_same, sA_ne, ud_eq, ud_ne, Int.add_zero, Int.reduceAdd]; omega)) ?_
    exact go m' mo fi _ _ hm (by rw [itN_s ht.1]; exact hmo) (by rw [itN_s ht.1]; exact hfi)
  · intro k m' h1 h2 hm ih x8 x9 mo hmo fi hfi
    show V d 178 (50, ([some (.inr (.inr 81)), some (.inl j), some (.inl o), some (.inl x), some (.inl fi), some (.inl mo), some (.inl (t)), some (.inl (k)), x8, x9], ([], (m', (none, (dy, L)))))) Q
    have e0 : m' 81 0 = m 81 0 := hm.2.1 0 (by omega)
    have e5 : m' 81 5 = m 81 5 := hm.2.1 5 (by omega)
    have e22 : m' 81 22 = m 81 22 := hm.2.1 22 (by omega)
    refine v_iload (n := 52) xB_178 dX11_twice_50 rfl rfl ?_
    refine v_iconst (n := 53) xB_178 dX11_twice_52 ⟨by decide, by decide⟩ rfl ?_
    refine v_ic_ge_n (n := 56) xB_178 dX11_twice_53 (by decide) rfl (by first | omega | (simp only [sA_same, sA_s, ud_s, Int.reduceEq, if_true, if_false, ite_true, ite_false, ↓reduceIte, and_true, true_and, eq_self, Int.add_zero, Int.reduceAdd]; omega) | (simp (disch := omega) only [sA_same, sA_ne, ud_eq, ud_ne, Int.add_zero, Int.reduceAdd]; omega)) ?_
    refine v_iconst (n := 57) xB_178 dX11_twice_56 ⟨by decide, by decide⟩ rfl ?_
    refine v_istore8 (n := 59) xB_178 dX11_twice_57 rfl rfl ?_
    refine vc_tw3 hd ht ⟨h1, h2⟩ hR0 hj ho hx (mo := mo) (fi := fi) hm hmo hfi _ (fun m2 mo2 fi2 x8b x9b hm2 hmo2 hfi2 => ?_)
    refine v_iinc7 (n := 121) xB_178 dX11_twice_118 rfl (by first | omega | (simp only [sA_same, sA_s, ud_s, Int.reduceEq, if_true, if_false, ite_true, ite_false, ↓reduceIte, and_true, true_and, eq_self, Int.add_zero, Int.reduceAdd]; omega) | (simp (disch := omega) only [sA_same, sA_ne, ud_eq, ud_ne, Int.add_zero, Int.reduceAdd]; omega)) rfl ?_
    refine v_goto (t := 50) xB_178 dX11_twice_121 (by decide) rfl ?_
    exact ih _ hm2 _ _ _ hmo2 _ hfi2
  · exact hm0
set_option maxHeartbeats 1000000 in
theorem c_twice {d : Nat} {CF : Int → CLs} {j o x : Int} {m : PM} {dy : List (Nat × Nat)} {L : Nat} {Q : Option PV → PS → Prop} (hd : 8 ≤ d) (hR : RI m CF) (o1 : ∀ m' : PM, RFr m m' → Q (some (.inl (T2 m CF j o x))) (m', (none, (dy, L)))) : C d 178 [.inr (.inr 81), .inl j, .inl o, .inl x] (m, (none, (dy, L))) Q := by
  refine C_go (k := 7) hd xL_178 (fun d hd => ?_)
  show V d 178 (0, ([some (.inr (.inr 81)), some (.inl j), some (.inl o), some (.inl x), none, none, none, none, none, none], ([], (m, (none, (dy, L)))))) Q
  obtain ⟨s1, t1, j1, ⟨b1, b2, b3, b4, b5, b6, b7, b8⟩, r1, v1, ⟨u1, u2⟩, jr⟩ := hR
  have hR0 : RI m CF := ⟨s1, t1, j1, ⟨b1, b2, b3, b4, b5, b6, b7, b8⟩, r1, v1, ⟨u1, u2⟩, jr⟩
  refine v_aload_n (n := 1) xB_178 dX11_twice_0 rfl rfl ?_
  refine v_iload_n (n := 2) xB_178 dX11_twice_1 rfl rfl ?_
  refine v_call_v (n := 5) xB_178 dX11_twice_2 xO_178 iv_11_283 rfl (sh_81 _ _ _) rfl rfl rfl ?_
  refine c_isJob (by omega) (by first | omega | (simp only [sA_same, sA_s, ud_s, Int.reduceEq, if_true, if_false, ite_true, ite_false, ↓reduceIte, and_true, true_and, eq_self, Int.add_zero, Int.reduceAdd]; omega) | (simp (disch := omega) only [sA_same, sA_ne, ud_eq, ud_ne, Int.add_zero, Int.reduceAdd]; omega)) (fun g1 => ?_) (fun g2 => ?_)
  · refine v_if_eq_n (n := 8) xB_178 dX11_twice_5 (by decide) rfl (by decide) ?_
    refine v_aload_n (n := 9) xB_178 dX11_twice_8 rfl rfl ?_
    refine v_iload_n (n := 10) xB_178 dX11_twice_9 rfl rfl ?_
    refine v_call_v (n := 13) xB_178 dX11_twice_10 xO_178 iv_11_283 rfl (sh_81 _ _ _) rfl rfl rfl ?_
    refine c_isJob (by omega) (by first | omega | (simp only [sA_same, sA_s, ud_s, Int.reduceEq, if_true, if_false, ite_true, ite_false, ↓reduceIte, and_true, true_and, eq_self, Int.add_zero, Int.reduceAdd]; omega) | (simp (disch := omega) only [sA_same, sA_ne, ud_eq, ud_ne, Int.add_zero, Int.reduceAdd]; omega)) (fun g3 => ?_) (fun g4 => ?_)
    · refine v_if_eq_n (n := 16) xB_178 dX11_twice_13 (by decide) rfl (by decide) ?_
      refine v_aload_n (n := 17) xB_178 dX11_twice_16 rfl rfl ?_
      refine v_iload_n (n := 18) xB_178 dX11_twice_17 rfl rfl ?_
      refine v_iconst (n := 19) xB_178 dX11_twice_18 ⟨by decide, by decide⟩ rfl ?_
      refine v_iconst (n := 20) xB_178 dX11_twice_19 ⟨by decide, by decide⟩ rfl ?_
      refine v_call_v (n := 23) xB_178 dX11_twice_20 xO_178 iv_11_221 rfl (sh_81 _ _ _) rfl rfl rfl ?_
      refine c_in (by omega)  (fun g5 => ?_) (fun g6 => ?_)
      · refine v_if_ne_y (t := 28) xB_178 dX11_twice_23 (by decide) rfl (by decide) ?_
        refine v_bipush (n := 30) xB_178 dX11_twice_28 ⟨by decide, by decide⟩ rfl ?_
        refine v_istore4 (n := 32) xB_178 dX11_twice_30 rfl rfl ?_
        refine v_iconst (n := 33) xB_178 dX11_twice_32 ⟨by decide, by decide⟩ rfl ?_
        refine v_istore5 (n := 35) xB_178 dX11_twice_33 rfl rfl ?_
        refine v_iconst (n := 36) xB_178 dX11_twice_35 ⟨by decide, by decide⟩ rfl ?_
        refine v_istore6 (n := 38) xB_178 dX11_twice_36 rfl rfl ?_
        refine lp_up (F := fun (k : Int) (m' : PM) => ∀ x7 x8 x9 : Option PV, ∀ mo : Int, mo = (itN (fun t s => itN (fun w s => itN (fun u s => upS (R2 m CF (w) u o (RA m CF (t) (m 83 (t)) j)) (100 * (t) + 10 * (w) + u) s) (m 81 0).toNat s) 4 s) (k).toNat (-1, -5)).1 → ∀ fi : Int, fi = (itN (fun t s => itN (fun w s => itN (fun u s => upS (R2 m CF (w) u o (RA m CF (t) (m 83 (t)) j)) (100 * (t) + 10 * (w) + u) s) (m 81 0).toNat s) 4 s) (k).toNat (-1, -5)).2 → V d 178 (38, ([some (.inr (.inr 81)), some (.inl j), some (.inl o), some (.inl x), some (.inl fi), some (.inl mo), some (.inl (k)), x7, x8, x9], ([], (m', (none, (dy, L)))))) Q) (E := fun (k : Int) (m' : PM) => RFr m (m')) (a := 0) (b := m 81 0) ?_ ?_ (0) (_) (by first | omega | (simp only [sA_same, sA_s, ud_s, Int.reduceEq, if_true, if_false, ite_true, ite_false, ↓reduceIte, and_true, true_and, eq_self, Int.add_zero, Int.reduceAdd]; omega) | (simp (disch := omega) only [sA_same, sA_ne, ud_eq, ud_ne, Int.add_zero, Int.reduceAdd]; omega)) (by first | omega | (simp only [sA_same, sA_s, ud_s, Int.reduceEq, if_true, if_false, ite_true, ite_false, ↓reduceIte, and_true, true_and, eq_self, Int.add_zero, Int.reduceAdd]; omega) | (simp (disch := omega) only [sA_same, sA_ne, ud_eq, ud_ne, Int.add_zero, Int.reduceAdd]; omega)) ?_ _ _ _ _ rfl _ rfl
        · intro m' hm x7 x8 x9 mo hmo fi hfi
          show V d 178 (38, ([some (.inr (.inr 81)), some (.inl j), some (.inl o), some (.inl x), some (.inl fi), some (.inl mo), some (.inl (m 81 0)), x7, x8, x9], ([], (m', (none, (dy, L)))))) Q
          have e0 : m' 81 0 = m 81 0 := hm.2.1 0 (by omega)
          have e5 : m' 81 5 = m 81 5 := hm.2.1 5 (by omega)
          have e22 : m' 81 22 = m 81 22 := hm.2.1 22 (by omega)
          refine v_iload (n := 40) xB_178 dX11_twice_38 rfl rfl ?_
          refine v_aload_n (n := 41) xB_178 dX11_twice_40 rfl rfl ?_
          refine v_gf_i (n := 44) (kz := 0) xB_178 dX11_twice_41 xO_178 fl_11_7 fg_11_0 rfl (sh_81 _ _ _) rfl rfl ?_
          refine v_ic_ge_y (t := 130) xB_178 dX11_twice_44 (by decide) rfl (by first | omega | (simp only [sA_same, sA_s, ud_s, Int.reduceEq, if_true, if_false, ite_true, ite_false, ↓reduceIte, and_true, true_and, eq_self, Int.add_zero, Int.reduceAdd]; omega) | (simp (disch := omega) only [sA_same, sA_ne, ud_eq, ud_ne, Int.add_zero, Int.reduceAdd]; omega)) ?_
          refine v_iload_n (n := 131) xB_178 dX11_twice_130 rfl rfl ?_
          refine v_if_ne (t := 139) (n := 134) xB_178 dX11_twice_131 (by decide) rfl rfl (fun g1 => ?_) (fun g1 => ?_)
          · refine v_iload (n := 141) xB_178 dX11_twice_139 rfl rfl ?_
            refine v_if_ge (t := 148) (n := 144) xB_178 dX11_twice_141 (by decide) rfl rfl (fun g2 => ?_) (fun g2 => ?_)
            · refine v_iload (n := 150) xB_178 dX11_twice_148 rfl rfl ?_
              refine v_ireturn0 xB_178 dX11_twice_150 xK_178 ?_
              refine q_eqI (o1 _ hm) ?_
              unfold T2 TW
              rw [if_pos (by omega)]
              first | (rw [if_pos (by omega)]; exact hfi.symm) | (rw [if_neg (by omega), ← hmo]; first | rw [if_pos (by omega)] | rw [if_neg (by omega)])
            · refine v_iconst (n := 145) xB_178 dX11_twice_144 ⟨by decide, by decide⟩ rfl ?_
              refine v_goto (t := 150) xB_178 dX11_twice_145 (by decide) rfl ?_
              refine v_ireturn0 xB_178 dX11_twice_150 xK_178 ?_
              refine q_eqI (o1 _ hm) ?_
              unfold T2 TW
              rw [if_pos (by omega)]
              first | (rw [if_pos (by omega)]; exact hfi.symm) | (rw [if_neg (by omega), ← hmo]; first | rw [if_pos (by omega)] | rw [if_neg (by omega)])
          · refine v_iload (n := 136) xB_178 dX11_twice_134 rfl rfl ?_
            refine v_goto (t := 150) xB_178 dX11_twice_136 (by decide) rfl ?_
            refine v_ireturn0 xB_178 dX11_twice_150 xK_178 ?_
            refine q_eqI (o1 _ hm) ?_
            unfold T2 TW
            rw [if_pos (by omega)]
            first | (rw [if_pos (by omega)]; exact hfi.symm) | (rw [if_neg (by omega), ← hmo]; first | rw [if_pos (by omega)] | rw [if_neg (by omega)])
        · intro k m' h1 h2 hm ih x7 x8 x9 mo hmo fi hfi
          show V d 178 (38, ([some (.inr (.inr 81)), some (.inl j), some (.inl o), some (.inl x), some (.inl fi), some (.inl mo), some (.inl (k)), x7, x8, x9], ([], (m', (none, (dy, L)))))) Q
          have e0 : m' 81 0 = m 81 0 := hm.2.1 0 (by omega)
          have e5 : m' 81 5 = m 81 5 := hm.2.1 5 (by omega)
          have e22 : m' 81 22 = m 81 22 := hm.2.1 22 (by omega)
          refine v_iload (n := 40) xB_178 dX11_twice_38 rfl rfl ?_
          refine v_aload_n (n := 41) xB_178 dX11_twice_40 rfl rfl ?_
          refine v_gf_i (n := 44) (kz := 0) xB_178 dX11_twice_41 xO_178 fl_11_7 fg_11_0 rfl (sh_81 _ _ _) rfl rfl ?_
          refine v_ic_ge_n (n := 47) xB_178 dX11_twice_44 (by decide) rfl (by first | omega | (simp only [sA_same, sA_s, ud_s, Int.reduceEq, if_true, if_false, ite_true, ite_false, ↓reduceIte, and_true, true_and, eq_self, Int.add_zero, Int.reduceAdd]; omega) | (simp (disch := omega) only [sA_same, sA_ne, ud_eq, ud_ne, Int.add_zero, Int.reduceAdd]; omega)) ?_
          refine v_iconst (n := 48) xB_178 dX11_twice_47 ⟨by decide, by decide⟩ rfl ?_
          refine v_istore7 (n := 50) xB_178 dX11_twice_48 rfl rfl ?_
          refine vc_tw2 (by omega) ⟨h1, by omega⟩ hR0 (by omega) (by omega) (by omega) (mo := mo) (fi := fi) (t := k) hm hmo hfi _ _ (fun m2 mo2 fi2 x8b x9b hm2 hmo2 hfi2 => ?_)
          refine v_iinc6 (n := 127) xB_178 dX11_twice_124 rfl (by first | omega | (simp only [sA_same, sA_s, ud_s, Int.reduceEq, if_true, if_false, ite_true, ite_false, ↓reduceIte, and_true, true_and, eq_self, Int.add_zero, Int.reduceAdd]; omega) | (simp (disch := omega) only [sA_same, sA_ne, ud_eq, ud_ne, Int.add_zero, Int.reduceAdd]; omega)) rfl ?_
          refine v_goto (t := 38) xB_178 dX11_twice_127 (by decide) rfl ?_
          exact ih _ hm2 _ _ _ _ hmo2 _ hfi2
        · exact RI_refl hR0
      · refine v_if_ne_n (n := 26) xB_178 dX11_twice_23 (by decide) rfl (by decide) ?_
        refine v_iconst (n := 27) xB_178 dX11_twice_26 ⟨by decide, by decide⟩ rfl ?_
        refine v_ireturn0 xB_178 dX11_twice_27 xK_178 ?_
        refine q_eqI (o1 _ (RI_refl hR0)) ?_
        unfold T2
        rw [if_neg (by omega)]
    · refine v_if_eq_y (t := 26) xB_178 dX11_twice_13 (by decide) rfl (by decide) ?_
      refine v_iconst (n := 27) xB_178 dX11_twice_26 ⟨by decide, by decide⟩ rfl ?_
      refine v_ireturn0 xB_178 dX11_twice_27 xK_178 ?_
      refine q_eqI (o1 _ (RI_refl hR0)) ?_
      unfold T2
      rw [if_neg (by omega)]
  · refine v_if_eq_y (t := 26) xB_178 dX11_twice_5 (by decide) rfl (by decide) ?_
    refine v_iconst (n := 27) xB_178 dX11_twice_26 ⟨by decide, by decide⟩ rfl ?_
    refine v_ireturn0 xB_178 dX11_twice_27 xK_178 ?_
    refine q_eqI (o1 _ (RI_refl hR0)) ?_
    unfold T2
    rw [if_neg (by omega)]
theorem gc_st {p q : Int} (hp : 0 ≤ p) (hq : 0 ≤ q) : gcF p q = gcF q (p % q) := by
  obtain ⟨a, rfl⟩ := Int.eq_ofNat_of_zero_le hp
  obtain ⟨b, rfl⟩ := Int.eq_ofNat_of_zero_le hq
  show ((Nat.gcd a b : Nat) : Int) = ((Nat.gcd b (a % b) : Nat) : Int)
  rw [Nat.gcd_comm a b, Nat.gcd_rec b a, Nat.gcd_comm (a % b) b]
theorem gc_0 {p : Int} (hp : 0 ≤ p) : gcF p 0 = p := by
  obtain ⟨a, rfl⟩ := Int.eq_ofNat_of_zero_le hp
  show ((Nat.gcd a 0 : Nat) : Int) = (a : Int)
  rw [Nat.gcd_zero_right]
set_option maxHeartbeats 1000000 in
theorem vc_div {d : Nat} {a b G : Int} {σ : PS} {Q : Option PV → PS → Prop} (o1 : Q (some (.inl G)) σ) : ∀ (F : Nat) (p q : Int) (x5 : Option PV), 0 ≤ p → 0 ≤ q → q ≤ F → gcF p q = G → V d 186 (5, ([some (.inr (.inr 81)), some (.inl a), some (.inl b), some (.inl p), some (.inl q), x5], ([], σ))) Q := by
  intro F
  induction F with
  | zero =>
    intro p q x5 hp hq hF hG
    have hq0 : q = 0 := by omega
    subst hq0
    rw [gc_0 hp] at hG
    subst hG
    refine v_iload (n := 7) xB_186 dX11_divisor_5 rfl rfl ?_
    refine v_if_eq_y (t := 26) xB_186 dX11_divisor_7 (by decide) rfl (by first | omega | (simp only [sA_same, sA_s, ud_s, Int.reduceEq, if_true, if_false, ite_true, ite_false, ↓reduceIte, and_true, true_and, eq_self, Int.add_zero, Int.reduceAdd]; omega) | (simp (disch := omega) only [sA_same, sA_ne, ud_eq, ud_ne, Int.add_zero, Int.reduceAdd]; omega)) ?_
    refine v_iload_n (n := 27) xB_186 dX11_divisor_26 rfl rfl ?_
    refine v_ireturn0 xB_186 dX11_divisor_27 xK_186 ?_
    exact o1
  | succ F ih =>
    intro p q x5 hp hq hF hG
    refine v_iload (n := 7) xB_186 dX11_divisor_5 rfl rfl ?_
    refine v_if_eq (t := 26) (n := 10) xB_186 dX11_divisor_7 (by decide) rfl rfl (fun g1 => ?_) (fun g1 => ?_)
    · refine v_iload_n (n := 27) xB_186 dX11_divisor_26 rfl rfl ?_
      refine v_ireturn0 xB_186 dX11_divisor_27 xK_186 ?_
      have hq0 : q = 0 := by omega
      subst hq0
      rw [gc_0 hp] at hG
      subst hG
      exact o1
    · refine v_iload_n (n := 11) xB_186 dX11_divisor_10 rfl rfl ?_
      refine v_iload (n := 13) xB_186 dX11_divisor_11 rfl rfl ?_
      refine v_irem (n := 14) xB_186 dX11_divisor_13 (by first | omega | (simp only [sA_same, sA_s, ud_s, Int.reduceEq, if_true, if_false, ite_true, ite_false, ↓reduceIte, and_true, true_and, eq_self, Int.add_zero, Int.reduceAdd]; omega) | (simp (disch := omega) only [sA_same, sA_ne, ud_eq, ud_ne, Int.add_zero, Int.reduceAdd]; omega)) rfl ?_
      refine v_istore5 (n := 16) xB_186 dX11_divisor_14 rfl rfl ?_
      refine v_iload (n := 18) xB_186 dX11_divisor_16 rfl rfl ?_
      refine v_istore_n3 (n := 19) xB_186 dX11_divisor_18 rfl rfl ?_
      refine v_iload (n := 21) xB_186 dX11_divisor_19 rfl rfl ?_
      refine v_istore4 (n := 23) xB_186 dX11_divisor_21 rfl rfl ?_
      refine v_goto (t := 5) xB_186 dX11_divisor_23 (by decide) rfl ?_
      have r1 := Int.emod_nonneg p (b := q) (by omega)
      have r2 := Int.emod_lt_of_pos p (b := q) (by omega)
      exact ih _ _ _ hq r1 (by omega) (by rw [← gc_st hp hq]; exact hG)
set_option maxHeartbeats 1000000 in
theorem c_divisor {d : Nat} {a b : Int} {σ : PS} {Q : Option PV → PS → Prop} (hd : 1 ≤ d) (ha : 0 ≤ a) (hb : 0 ≤ b) (o1 : Q (some (.inl (gcF a b))) σ) : C d 186 [.inr (.inr 81), .inl a, .inl b] σ Q := by
  refine C_go (k := 0) hd xL_186 (fun d hd => ?_)
  show V d 186 (0, ([some (.inr (.inr 81)), some (.inl a), some (.inl b), none, none, none], ([], σ))) Q
  refine v_iload_n (n := 1) xB_186 dX11_divisor_0 rfl rfl ?_
  refine v_istore_n3 (n := 2) xB_186 dX11_divisor_1 rfl rfl ?_
  refine v_iload_n (n := 3) xB_186 dX11_divisor_2 rfl rfl ?_
  refine v_istore4 (n := 5) xB_186 dX11_divisor_3 rfl rfl ?_
  exact vc_div o1 b.toNat _ _ _ ha hb (by omega) rfl
set_option maxHeartbeats 1000000 in
theorem c_lowest {d : Nat} {a b p : Int} {m : PM} {dy : List (Nat × Nat)} {L : Nat} {Q : Option PV → PS → Prop} (hd : 2 ≤ d) (ha : 0 ≤ a) (hb : 1 ≤ b) (hp : 0 ≤ p ∧ p ≤ 1) (o1 : Q (some (.inr (.inl (loF a b p)))) (m, (none, (dy, L)))) : C d 187 [.inr (.inr 81), .inl a, .inl b, .inl p] (m, (none, (dy, L))) Q := by
  refine C_go (k := 1) hd xL_187 (fun d hd => ?_)
  show V d 187 (0, ([some (.inr (.inr 81)), some (.inl a), some (.inl b), some (.inl p), none], ([], (m, (none, (dy, L)))))) Q
  have q := gc_pos (a := a) hb
  refine v_aload_n (n := 1) xB_187 dX11_lowest_0 rfl rfl ?_
  refine v_iload_n (n := 2) xB_187 dX11_lowest_1 rfl rfl ?_
  refine v_iload_n (n := 3) xB_187 dX11_lowest_2 rfl rfl ?_
  refine v_call_v (n := 6) xB_187 dX11_lowest_3 xO_187 iv_11_374 rfl (sh_81 _ _ _) rfl rfl rfl ?_
  refine c_divisor (by omega) (by first | omega | (simp only [sA_same, sA_s, ud_s, Int.reduceEq, if_true, if_false, ite_true, ite_false, ↓reduceIte, and_true, true_and, eq_self, Int.add_zero, Int.reduceAdd]; omega) | (simp (disch := omega) only [sA_same, sA_ne, ud_eq, ud_ne, Int.add_zero, Int.reduceAdd]; omega)) (by first | omega | (simp only [sA_same, sA_s, ud_s, Int.reduceEq, if_true, if_false, ite_true, ite_false, ↓reduceIte, and_true, true_and, eq_self, Int.add_zero, Int.reduceAdd]; omega) | (simp (disch := omega) only [sA_same, sA_ne, ud_eq, ud_ne, Int.add_zero, Int.reduceAdd]; omega)) ?_
  refine v_istore4 (n := 8) xB_187 dX11_lowest_6 rfl rfl ?_
  refine v_iload_n (n := 9) xB_187 dX11_lowest_8 rfl rfl ?_
  refine v_if_ne (t := 20) (n := 12) xB_187 dX11_lowest_9 (by decide) rfl rfl (fun g1 => ?_) (fun g1 => ?_)
  · refine v_iload_n (n := 21) xB_187 dX11_lowest_20 rfl rfl ?_
    refine v_iload (n := 23) xB_187 dX11_lowest_21 rfl rfl ?_
    refine v_idiv (n := 24) xB_187 dX11_lowest_23 (by first | omega | (simp only [sA_same, sA_s, ud_s, Int.reduceEq, if_true, if_false, ite_true, ite_false, ↓reduceIte, and_true, true_and, eq_self, Int.add_zero, Int.reduceAdd]; omega) | (simp (disch := omega) only [sA_same, sA_ne, ud_eq, ud_ne, Int.add_zero, Int.reduceAdd]; omega)) rfl ?_
    refine v_i2l (n := 25) xB_187 dX11_lowest_24 rfl ?_
    refine v_lreturn xB_187 dX11_lowest_25 xK_187 ?_
    refine q_eqL o1 ?_
    unfold loF
    first | rw [if_pos (by omega)] | rw [if_neg (by omega)]
  · refine v_iload_n (n := 13) xB_187 dX11_lowest_12 rfl rfl ?_
    refine v_iload (n := 15) xB_187 dX11_lowest_13 rfl rfl ?_
    refine v_idiv (n := 16) xB_187 dX11_lowest_15 (by first | omega | (simp only [sA_same, sA_s, ud_s, Int.reduceEq, if_true, if_false, ite_true, ite_false, ↓reduceIte, and_true, true_and, eq_self, Int.add_zero, Int.reduceAdd]; omega) | (simp (disch := omega) only [sA_same, sA_ne, ud_eq, ud_ne, Int.add_zero, Int.reduceAdd]; omega)) rfl ?_
    refine v_i2l (n := 17) xB_187 dX11_lowest_16 rfl ?_
    refine v_goto (t := 25) xB_187 dX11_lowest_17 (by decide) rfl ?_
    refine v_lreturn xB_187 dX11_lowest_25 xK_187 ?_
    refine q_eqL o1 ?_
    unfold loF
    first | rw [if_pos (by omega)] | rw [if_neg (by omega)]
set_option maxHeartbeats 1000000 in
theorem c_odds {d : Nat} {CF : Int → CLs} {j q p : Int} {m : PM} {dy : List (Nat × Nat)} {L : Nat} {Q : Option PV → PS → Prop} (hd : 8 ≤ d) (hR : RI m CF) (o1 : ∀ m' : PM, RFr m m' → Q (some (.inr (.inl (OD m CF j q p)))) (m', (none, (dy, L)))) : C d 188 [.inr (.inr 81), .inl j, .inl q, .inl p] (m, (none, (dy, L))) Q := by
  refine C_go (k := 7) hd xL_188 (fun d hd => ?_)
  show V d 188 (0, ([some (.inr (.inr 81)), some (.inl j), some (.inl q), some (.inl p), none, none], ([], (m, (none, (dy, L)))))) Q
  obtain ⟨s1, t1, j1, ⟨b1, b2, b3, b4, b5, b6, b7, b8⟩, r1, v1, ⟨u1, u2⟩, jr⟩ := hR
  have hR0 : RI m CF := ⟨s1, t1, j1, ⟨b1, b2, b3, b4, b5, b6, b7, b8⟩, r1, v1, ⟨u1, u2⟩, jr⟩
  refine v_aload_n (n := 1) xB_188 dX11_odds_0 rfl rfl ?_
  refine v_iload_n (n := 2) xB_188 dX11_odds_1 rfl rfl ?_
  refine v_call_v (n := 5) xB_188 dX11_odds_2 xO_188 iv_11_283 rfl (sh_81 _ _ _) rfl rfl rfl ?_
  refine c_isJob (by omega) (by first | omega | (simp only [sA_same, sA_s, ud_s, Int.reduceEq, if_true, if_false, ite_true, ite_false, ↓reduceIte, and_true, true_and, eq_self, Int.add_zero, Int.reduceAdd]; omega) | (simp (disch := omega) only [sA_same, sA_ne, ud_eq, ud_ne, Int.add_zero, Int.reduceAdd]; omega)) (fun g1 => ?_) (fun g2 => ?_)
  · refine v_if_eq_n (n := 8) xB_188 dX11_odds_5 (by decide) rfl (by decide) ?_
    refine v_aload_n (n := 9) xB_188 dX11_odds_8 rfl rfl ?_
    refine v_iload_n (n := 10) xB_188 dX11_odds_9 rfl rfl ?_
    refine v_iconst (n := 11) xB_188 dX11_odds_10 ⟨by decide, by decide⟩ rfl ?_
    refine v_bipush (n := 13) xB_188 dX11_odds_11 ⟨by decide, by decide⟩ rfl ?_
    refine v_call_v (n := 16) xB_188 dX11_odds_13 xO_188 iv_11_221 rfl (sh_81 _ _ _) rfl rfl rfl ?_
    refine c_in (by omega)  (fun g3 => ?_) (fun g4 => ?_)
    · refine v_if_eq_n (n := 19) xB_188 dX11_odds_16 (by decide) rfl (by decide) ?_
      refine v_aload_n (n := 20) xB_188 dX11_odds_19 rfl rfl ?_
      refine v_iload_n (n := 21) xB_188 dX11_odds_20 rfl rfl ?_
      refine v_iconst (n := 22) xB_188 dX11_odds_21 ⟨by decide, by decide⟩ rfl ?_
      refine v_iconst (n := 23) xB_188 dX11_odds_22 ⟨by decide, by decide⟩ rfl ?_
      refine v_call_v (n := 26) xB_188 dX11_odds_23 xO_188 iv_11_221 rfl (sh_81 _ _ _) rfl rfl rfl ?_
      refine c_in (by omega)  (fun g5 => ?_) (fun g6 => ?_)
      · refine v_if_eq_n (n := 29) xB_188 dX11_odds_26 (by decide) rfl (by decide) ?_
        refine v_aload_n (n := 30) xB_188 dX11_odds_29 rfl rfl ?_
        refine v_gf_i (n := 33) (kz := 0) xB_188 dX11_odds_30 xO_188 fl_11_7 fg_11_0 rfl (sh_81 _ _ _) rfl rfl ?_
        refine v_if_ne (t := 40) (n := 36) xB_188 dX11_odds_33 (by decide) rfl rfl (fun g7 => ?_) (fun g7 => ?_)
        · refine v_iconst (n := 41) xB_188 dX11_odds_40 ⟨by decide, by decide⟩ rfl ?_
          refine v_istore4 (n := 43) xB_188 dX11_odds_41 rfl rfl ?_
          refine v_iconst (n := 44) xB_188 dX11_odds_43 ⟨by decide, by decide⟩ rfl ?_
          refine v_istore5 (n := 46) xB_188 dX11_odds_44 rfl rfl ?_
          refine lp_up (F := fun (k : Int) (m' : PM) => ∀ e : Int, e = itN (OS m CF j q) k.toNat 0 ∧ 0 ≤ e ∧ e ≤ k → V d 188 (46, ([some (.inr (.inr 81)), some (.inl j), some (.inl q), some (.inl p), some (.inl e), some (.inl (k))], ([], (m', (none, (dy, L)))))) Q) (E := fun (k : Int) (m' : PM) => RFr m (m')) (a := 0) (b := m 81 0) ?_ ?_ (0) (_) (by first | omega | (simp only [sA_same, sA_s, ud_s, Int.reduceEq, if_true, if_false, ite_true, ite_false, ↓reduceIte, and_true, true_and, eq_self, Int.add_zero, Int.reduceAdd]; omega) | (simp (disch := omega) only [sA_same, sA_ne, ud_eq, ud_ne, Int.add_zero, Int.reduceAdd]; omega)) (by first | omega | (simp only [sA_same, sA_s, ud_s, Int.reduceEq, if_true, if_false, ite_true, ite_false, ↓reduceIte, and_true, true_and, eq_self, Int.add_zero, Int.reduceAdd]; omega) | (simp (disch := omega) only [sA_same, sA_ne, ud_eq, ud_ne, Int.add_zero, Int.reduceAdd]; omega)) ?_ _ ⟨rfl, Int.le_refl 0, Int.le_refl 0⟩
          · intro m' hm e he
            show V d 188 (46, ([some (.inr (.inr 81)), some (.inl j), some (.inl q), some (.inl p), some (.inl e), some (.inl (m 81 0))], ([], (m', (none, (dy, L)))))) Q
            have e0 : m' 81 0 = m 81 0 := hm.2.1 0 (by omega)
            have e5 : m' 81 5 = m 81 5 := hm.2.1 5 (by omega)
            have e22 : m' 81 22 = m 81 22 := hm.2.1 22 (by omega)
            refine v_iload (n := 48) xB_188 dX11_odds_46 rfl rfl ?_
            refine v_aload_n (n := 49) xB_188 dX11_odds_48 rfl rfl ?_
            refine v_gf_i (n := 52) (kz := 0) xB_188 dX11_odds_49 xO_188 fl_11_7 fg_11_0 rfl (sh_81 _ _ _) rfl rfl ?_
            refine v_ic_ge_y (t := 82) xB_188 dX11_odds_52 (by decide) rfl (by first | omega | (simp only [sA_same, sA_s, ud_s, Int.reduceEq, if_true, if_false, ite_true, ite_false, ↓reduceIte, and_true, true_and, eq_self, Int.add_zero, Int.reduceAdd]; omega) | (simp (disch := omega) only [sA_same, sA_ne, ud_eq, ud_ne, Int.add_zero, Int.reduceAdd]; omega)) ?_
            refine v_aload_n (n := 83) xB_188 dX11_odds_82 rfl rfl ?_
            refine v_iload (n := 85) xB_188 dX11_odds_83 rfl rfl ?_
            refine v_aload_n (n := 86) xB_188 dX11_odds_85 rfl rfl ?_
            refine v_gf_i (n := 89) (kz := 0) xB_188 dX11_odds_86 xO_188 fl_11_7 fg_11_0 rfl (sh_81 _ _ _) rfl rfl ?_
            refine v_iload_n (n := 90) xB_188 dX11_odds_89 rfl rfl ?_
            refine v_call_v (n := 93) xB_188 dX11_odds_90 xO_188 iv_11_379 rfl (sh_81 _ _ _) rfl rfl rfl ?_
            refine c_lowest (by omega) (by first | omega | (simp only [sA_same, sA_s, ud_s, Int.reduceEq, if_true, if_false, ite_true, ite_false, ↓reduceIte, and_true, true_and, eq_self, Int.add_zero, Int.reduceAdd]; omega) | (simp (disch := omega) only [sA_same, sA_ne, ud_eq, ud_ne, Int.add_zero, Int.reduceAdd]; omega)) (by first | omega | (simp only [sA_same, sA_s, ud_s, Int.reduceEq, if_true, if_false, ite_true, ite_false, ↓reduceIte, and_true, true_and, eq_self, Int.add_zero, Int.reduceAdd]; omega) | (simp (disch := omega) only [sA_same, sA_ne, ud_eq, ud_ne, Int.add_zero, Int.reduceAdd]; omega)) (by first | omega | (simp only [sA_same, sA_s, ud_s, Int.reduceEq, if_true, if_false, ite_true, ite_false, ↓reduceIte, and_true, true_and, eq_self, Int.add_zero, Int.reduceAdd]; omega) | (simp (disch := omega) only [sA_same, sA_ne, ud_eq, ud_ne, Int.add_zero, Int.reduceAdd]; omega)) ?_
            (try rw [e0])
            refine v_lreturn xB_188 dX11_odds_93 xK_188 ?_
            refine q_eqL (o1 _ hm) ?_
            unfold OD
            rw [if_pos (by omega), he.1]
          · intro k m' h1 h2 hm ih e he
            show V d 188 (46, ([some (.inr (.inr 81)), some (.inl j), some (.inl q), some (.inl p), some (.inl e), some (.inl (k))], ([], (m', (none, (dy, L)))))) Q
            have e0 : m' 81 0 = m 81 0 := hm.2.1 0 (by omega)
            have e5 : m' 81 5 = m 81 5 := hm.2.1 5 (by omega)
            have e22 : m' 81 22 = m 81 22 := hm.2.1 22 (by omega)
            have rb := RT_in s1 CF k j
            refine v_iload (n := 48) xB_188 dX11_odds_46 rfl rfl ?_
            refine v_aload_n (n := 49) xB_188 dX11_odds_48 rfl rfl ?_
            refine v_gf_i (n := 52) (kz := 0) xB_188 dX11_odds_49 xO_188 fl_11_7 fg_11_0 rfl (sh_81 _ _ _) rfl rfl ?_
            refine v_ic_ge_n (n := 55) xB_188 dX11_odds_52 (by decide) rfl (by first | omega | (simp only [sA_same, sA_s, ud_s, Int.reduceEq, if_true, if_false, ite_true, ite_false, ↓reduceIte, and_true, true_and, eq_self, Int.add_zero, Int.reduceAdd]; omega) | (simp (disch := omega) only [sA_same, sA_ne, ud_eq, ud_ne, Int.add_zero, Int.reduceAdd]; omega)) ?_
            refine v_iload (n := 57) xB_188 dX11_odds_55 rfl rfl ?_
            refine v_aload_n (n := 58) xB_188 dX11_odds_57 rfl rfl ?_
            refine v_iload (n := 60) xB_188 dX11_odds_58 rfl rfl ?_
            refine v_iload_n (n := 61) xB_188 dX11_odds_60 rfl rfl ?_
            refine v_call_v (n := 64) xB_188 dX11_odds_61 xO_188 iv_11_358 rfl (sh_81 _ _ _) rfl rfl rfl ?_
            refine c_rightAfter (by omega) (RI_R hR0 hm) (by first | omega | (simp only [sA_same, sA_s, ud_s, Int.reduceEq, if_true, if_false, ite_true, ite_false, ↓reduceIte, and_true, true_and, eq_self, Int.add_zero, Int.reduceAdd]; omega) | (simp (disch := omega) only [sA_same, sA_ne, ud_eq, ud_ne, Int.add_zero, Int.reduceAdd]; omega)) (by first | omega | (simp only [sA_same, sA_s, ud_s, Int.reduceEq, if_true, if_false, ite_true, ite_false, ↓reduceIte, and_true, true_and, eq_self, Int.add_zero, Int.reduceAdd]; omega) | (simp (disch := omega) only [sA_same, sA_ne, ud_eq, ud_ne, Int.add_zero, Int.reduceAdd]; omega)) (fun mA hA => ?_)
            have hm2 := RFr_trans hm hA
            rw [RT_AE (AE_R hm)]
            refine v_iload_n (n := 65) xB_188 dX11_odds_64 rfl rfl ?_
            refine v_ic_lt (t := 72) (n := 68) xB_188 dX11_odds_65 (by decide) rfl rfl (fun g1 => ?_) (fun g1 => ?_)
            · refine v_iconst (n := 73) xB_188 dX11_odds_72 ⟨by decide, by decide⟩ rfl ?_
              refine v_iadd (n := 74) xB_188 dX11_odds_73 (by first | omega | (simp only [sA_same, sA_s, ud_s, Int.reduceEq, if_true, if_false, ite_true, ite_false, ↓reduceIte, and_true, true_and, eq_self, Int.add_zero, Int.reduceAdd]; omega) | (simp (disch := omega) only [sA_same, sA_ne, ud_eq, ud_ne, Int.add_zero, Int.reduceAdd]; omega)) rfl ?_
              refine v_istore4 (n := 76) xB_188 dX11_odds_74 rfl rfl ?_
              refine v_iinc5 (n := 79) xB_188 dX11_odds_76 rfl (by first | omega | (simp only [sA_same, sA_s, ud_s, Int.reduceEq, if_true, if_false, ite_true, ite_false, ↓reduceIte, and_true, true_and, eq_self, Int.add_zero, Int.reduceAdd]; omega) | (simp (disch := omega) only [sA_same, sA_ne, ud_eq, ud_ne, Int.add_zero, Int.reduceAdd]; omega)) rfl ?_
              refine v_goto (t := 46) xB_188 dX11_odds_79 (by decide) rfl ?_
              first
              | exact ih _ hm2 _ ⟨by rw [itN_s h1, ← he.1]; exact (if_pos (by omega)).symm, by omega, by omega⟩
              | exact ih _ hm2 _ ⟨by rw [itN_s h1, ← he.1, Int.add_zero]; exact (if_neg (by omega)).symm, by omega, by omega⟩
            · refine v_iconst (n := 69) xB_188 dX11_odds_68 ⟨by decide, by decide⟩ rfl ?_
              refine v_goto (t := 73) xB_188 dX11_odds_69 (by decide) rfl ?_
              refine v_iadd (n := 74) xB_188 dX11_odds_73 (by first | omega | (simp only [sA_same, sA_s, ud_s, Int.reduceEq, if_true, if_false, ite_true, ite_false, ↓reduceIte, and_true, true_and, eq_self, Int.add_zero, Int.reduceAdd]; omega) | (simp (disch := omega) only [sA_same, sA_ne, ud_eq, ud_ne, Int.add_zero, Int.reduceAdd]; omega)) rfl ?_
              refine v_istore4 (n := 76) xB_188 dX11_odds_74 rfl rfl ?_
              refine v_iinc5 (n := 79) xB_188 dX11_odds_76 rfl (by first | omega | (simp only [sA_same, sA_s, ud_s, Int.reduceEq, if_true, if_false, ite_true, ite_false, ↓reduceIte, and_true, true_and, eq_self, Int.add_zero, Int.reduceAdd]; omega) | (simp (disch := omega) only [sA_same, sA_ne, ud_eq, ud_ne, Int.add_zero, Int.reduceAdd]; omega)) rfl ?_
              refine v_goto (t := 46) xB_188 dX11_odds_79 (by decide) rfl ?_
              first
              | exact ih _ hm2 _ ⟨by rw [itN_s h1, ← he.1]; exact (if_pos (by omega)).symm, by omega, by omega⟩
              | exact ih _ hm2 _ ⟨by rw [itN_s h1, ← he.1, Int.add_zero]; exact (if_neg (by omega)).symm, by omega, by omega⟩
          · exact RI_refl hR0
        · refine v_ldc2 (n := 39) xB_188 dX11_odds_36 xO_188 l2_11_377 rfl ?_
          refine v_lreturn xB_188 dX11_odds_39 xK_188 ?_
          refine q_eqL (o1 _ (RI_refl hR0)) ?_
          unfold OD
          rw [if_neg (by omega)]; rfl
      · refine v_if_eq_y (t := 36) xB_188 dX11_odds_26 (by decide) rfl (by decide) ?_
        refine v_ldc2 (n := 39) xB_188 dX11_odds_36 xO_188 l2_11_377 rfl ?_
        refine v_lreturn xB_188 dX11_odds_39 xK_188 ?_
        refine q_eqL (o1 _ (RI_refl hR0)) ?_
        unfold OD
        rw [if_neg (by omega)]; rfl
    · refine v_if_eq_y (t := 36) xB_188 dX11_odds_16 (by decide) rfl (by decide) ?_
      refine v_ldc2 (n := 39) xB_188 dX11_odds_36 xO_188 l2_11_377 rfl ?_
      refine v_lreturn xB_188 dX11_odds_39 xK_188 ?_
      refine q_eqL (o1 _ (RI_refl hR0)) ?_
      unfold OD
      rw [if_neg (by omega)]; rfl
  · refine v_if_eq_y (t := 36) xB_188 dX11_odds_5 (by decide) rfl (by decide) ?_
    refine v_ldc2 (n := 39) xB_188 dX11_odds_36 xO_188 l2_11_377 rfl ?_
    refine v_lreturn xB_188 dX11_odds_39 xK_188 ?_
    refine q_eqL (o1 _ (RI_refl hR0)) ?_
    unfold OD
    rw [if_neg (by omega)]; rfl
set_option maxHeartbeats 1000000 in
theorem c_mean {d : Nat} {CF : Int → CLs} {j p : Int} {m : PM} {dy : List (Nat × Nat)} {L : Nat} {Q : Option PV → PS → Prop} (hd : 8 ≤ d) (hR : RI m CF) (o1 : ∀ m' : PM, RFr m m' → Q (some (.inr (.inl (ME m CF j p)))) (m', (none, (dy, L)))) : C d 189 [.inr (.inr 81), .inl j, .inl p] (m, (none, (dy, L))) Q := by
  refine C_go (k := 7) hd xL_189 (fun d hd => ?_)
  show V d 189 (0, ([some (.inr (.inr 81)), some (.inl j), some (.inl p), none, none], ([], (m, (none, (dy, L)))))) Q
  obtain ⟨s1, t1, j1, ⟨b1, b2, b3, b4, b5, b6, b7, b8⟩, r1, v1, ⟨u1, u2⟩, jr⟩ := hR
  have hR0 : RI m CF := ⟨s1, t1, j1, ⟨b1, b2, b3, b4, b5, b6, b7, b8⟩, r1, v1, ⟨u1, u2⟩, jr⟩
  refine v_aload_n (n := 1) xB_189 dX11_mean_0 rfl rfl ?_
  refine v_iload_n (n := 2) xB_189 dX11_mean_1 rfl rfl ?_
  refine v_call_v (n := 5) xB_189 dX11_mean_2 xO_189 iv_11_283 rfl (sh_81 _ _ _) rfl rfl rfl ?_
  refine c_isJob (by omega) (by first | omega | (simp only [sA_same, sA_s, ud_s, Int.reduceEq, if_true, if_false, ite_true, ite_false, ↓reduceIte, and_true, true_and, eq_self, Int.add_zero, Int.reduceAdd]; omega) | (simp (disch := omega) only [sA_same, sA_ne, ud_eq, ud_ne, Int.add_zero, Int.reduceAdd]; omega)) (fun g1 => ?_) (fun g2 => ?_)
  · refine v_if_eq_n (n := 8) xB_189 dX11_mean_5 (by decide) rfl (by decide) ?_
    refine v_aload_n (n := 9) xB_189 dX11_mean_8 rfl rfl ?_
    refine v_iload_n (n := 10) xB_189 dX11_mean_9 rfl rfl ?_
    refine v_iconst (n := 11) xB_189 dX11_mean_10 ⟨by decide, by decide⟩ rfl ?_
    refine v_iconst (n := 12) xB_189 dX11_mean_11 ⟨by decide, by decide⟩ rfl ?_
    refine v_call_v (n := 15) xB_189 dX11_mean_12 xO_189 iv_11_221 rfl (sh_81 _ _ _) rfl rfl rfl ?_
    refine c_in (by omega)  (fun g3 => ?_) (fun g4 => ?_)
    · refine v_if_eq_n (n := 18) xB_189 dX11_mean_15 (by decide) rfl (by decide) ?_
      refine v_aload_n (n := 19) xB_189 dX11_mean_18 rfl rfl ?_
      refine v_gf_i (n := 22) (kz := 0) xB_189 dX11_mean_19 xO_189 fl_11_7 fg_11_0 rfl (sh_81 _ _ _) rfl rfl ?_
      refine v_if_ne (t := 29) (n := 25) xB_189 dX11_mean_22 (by decide) rfl rfl (fun g5 => ?_) (fun g5 => ?_)
      · refine v_iconst (n := 30) xB_189 dX11_mean_29 ⟨by decide, by decide⟩ rfl ?_
        refine v_istore_n3 (n := 31) xB_189 dX11_mean_30 rfl rfl ?_
        refine v_iconst (n := 32) xB_189 dX11_mean_31 ⟨by decide, by decide⟩ rfl ?_
        refine v_istore4 (n := 34) xB_189 dX11_mean_32 rfl rfl ?_
        refine lp_up (F := fun (k : Int) (m' : PM) => ∀ e : Int, e = itN (MS m CF j) k.toNat 0 ∧ 0 ≤ e ∧ e ≤ 12 * k → V d 189 (34, ([some (.inr (.inr 81)), some (.inl j), some (.inl p), some (.inl e), some (.inl (k))], ([], (m', (none, (dy, L)))))) Q) (E := fun (k : Int) (m' : PM) => RFr m (m')) (a := 0) (b := m 81 0) ?_ ?_ (0) (_) (by first | omega | (simp only [sA_same, sA_s, ud_s, Int.reduceEq, if_true, if_false, ite_true, ite_false, ↓reduceIte, and_true, true_and, eq_self, Int.add_zero, Int.reduceAdd]; omega) | (simp (disch := omega) only [sA_same, sA_ne, ud_eq, ud_ne, Int.add_zero, Int.reduceAdd]; omega)) (by first | omega | (simp only [sA_same, sA_s, ud_s, Int.reduceEq, if_true, if_false, ite_true, ite_false, ↓reduceIte, and_true, true_and, eq_self, Int.add_zero, Int.reduceAdd]; omega) | (simp (disch := omega) only [sA_same, sA_ne, ud_eq, ud_ne, Int.add_zero, Int.reduceAdd]; omega)) ?_ _ ⟨rfl, Int.le_refl 0, Int.le_refl 0⟩
        · intro m' hm e he
          show V d 189 (34, ([some (.inr (.inr 81)), some (.inl j), some (.inl p), some (.inl e), some (.inl (m 81 0))], ([], (m', (none, (dy, L)))))) Q
          have e0 : m' 81 0 = m 81 0 := hm.2.1 0 (by omega)
          have e5 : m' 81 5 = m 81 5 := hm.2.1 5 (by omega)
          have e22 : m' 81 22 = m 81 22 := hm.2.1 22 (by omega)
          refine v_iload (n := 36) xB_189 dX11_mean_34 rfl rfl ?_
          refine v_aload_n (n := 37) xB_189 dX11_mean_36 rfl rfl ?_
          refine v_gf_i (n := 40) (kz := 0) xB_189 dX11_mean_37 xO_189 fl_11_7 fg_11_0 rfl (sh_81 _ _ _) rfl rfl ?_
          refine v_ic_ge_y (t := 59) xB_189 dX11_mean_40 (by decide) rfl (by first | omega | (simp only [sA_same, sA_s, ud_s, Int.reduceEq, if_true, if_false, ite_true, ite_false, ↓reduceIte, and_true, true_and, eq_self, Int.add_zero, Int.reduceAdd]; omega) | (simp (disch := omega) only [sA_same, sA_ne, ud_eq, ud_ne, Int.add_zero, Int.reduceAdd]; omega)) ?_
          refine v_aload_n (n := 60) xB_189 dX11_mean_59 rfl rfl ?_
          refine v_iload_n (n := 61) xB_189 dX11_mean_60 rfl rfl ?_
          refine v_aload_n (n := 62) xB_189 dX11_mean_61 rfl rfl ?_
          refine v_gf_i (n := 65) (kz := 0) xB_189 dX11_mean_62 xO_189 fl_11_7 fg_11_0 rfl (sh_81 _ _ _) rfl rfl ?_
          refine v_iload_n (n := 66) xB_189 dX11_mean_65 rfl rfl ?_
          refine v_call_v (n := 69) xB_189 dX11_mean_66 xO_189 iv_11_379 rfl (sh_81 _ _ _) rfl rfl rfl ?_
          refine c_lowest (by omega) (by first | omega | (simp only [sA_same, sA_s, ud_s, Int.reduceEq, if_true, if_false, ite_true, ite_false, ↓reduceIte, and_true, true_and, eq_self, Int.add_zero, Int.reduceAdd]; omega) | (simp (disch := omega) only [sA_same, sA_ne, ud_eq, ud_ne, Int.add_zero, Int.reduceAdd]; omega)) (by first | omega | (simp only [sA_same, sA_s, ud_s, Int.reduceEq, if_true, if_false, ite_true, ite_false, ↓reduceIte, and_true, true_and, eq_self, Int.add_zero, Int.reduceAdd]; omega) | (simp (disch := omega) only [sA_same, sA_ne, ud_eq, ud_ne, Int.add_zero, Int.reduceAdd]; omega)) (by first | omega | (simp only [sA_same, sA_s, ud_s, Int.reduceEq, if_true, if_false, ite_true, ite_false, ↓reduceIte, and_true, true_and, eq_self, Int.add_zero, Int.reduceAdd]; omega) | (simp (disch := omega) only [sA_same, sA_ne, ud_eq, ud_ne, Int.add_zero, Int.reduceAdd]; omega)) ?_
          (try rw [e0])
          refine v_lreturn xB_189 dX11_mean_69 xK_189 ?_
          refine q_eqL (o1 _ hm) ?_
          unfold ME
          rw [if_pos (by omega), he.1]
        · intro k m' h1 h2 hm ih e he
          show V d 189 (34, ([some (.inr (.inr 81)), some (.inl j), some (.inl p), some (.inl e), some (.inl (k))], ([], (m', (none, (dy, L)))))) Q
          have e0 : m' 81 0 = m 81 0 := hm.2.1 0 (by omega)
          have e5 : m' 81 5 = m 81 5 := hm.2.1 5 (by omega)
          have e22 : m' 81 22 = m 81 22 := hm.2.1 22 (by omega)
          have rb := RT_in s1 CF k j
          refine v_iload (n := 36) xB_189 dX11_mean_34 rfl rfl ?_
          refine v_aload_n (n := 37) xB_189 dX11_mean_36 rfl rfl ?_
          refine v_gf_i (n := 40) (kz := 0) xB_189 dX11_mean_37 xO_189 fl_11_7 fg_11_0 rfl (sh_81 _ _ _) rfl rfl ?_
          refine v_ic_ge_n (n := 43) xB_189 dX11_mean_40 (by decide) rfl (by first | omega | (simp only [sA_same, sA_s, ud_s, Int.reduceEq, if_true, if_false, ite_true, ite_false, ↓reduceIte, and_true, true_and, eq_self, Int.add_zero, Int.reduceAdd]; omega) | (simp (disch := omega) only [sA_same, sA_ne, ud_eq, ud_ne, Int.add_zero, Int.reduceAdd]; omega)) ?_
          refine v_iload_n (n := 44) xB_189 dX11_mean_43 rfl rfl ?_
          refine v_aload_n (n := 45) xB_189 dX11_mean_44 rfl rfl ?_
          refine v_iload (n := 47) xB_189 dX11_mean_45 rfl rfl ?_
          refine v_iload_n (n := 48) xB_189 dX11_mean_47 rfl rfl ?_
          refine v_call_v (n := 51) xB_189 dX11_mean_48 xO_189 iv_11_358 rfl (sh_81 _ _ _) rfl rfl rfl ?_
          refine c_rightAfter (by omega) (RI_R hR0 hm) (by first | omega | (simp only [sA_same, sA_s, ud_s, Int.reduceEq, if_true, if_false, ite_true, ite_false, ↓reduceIte, and_true, true_and, eq_self, Int.add_zero, Int.reduceAdd]; omega) | (simp (disch := omega) only [sA_same, sA_ne, ud_eq, ud_ne, Int.add_zero, Int.reduceAdd]; omega)) (by first | omega | (simp only [sA_same, sA_s, ud_s, Int.reduceEq, if_true, if_false, ite_true, ite_false, ↓reduceIte, and_true, true_and, eq_self, Int.add_zero, Int.reduceAdd]; omega) | (simp (disch := omega) only [sA_same, sA_ne, ud_eq, ud_ne, Int.add_zero, Int.reduceAdd]; omega)) (fun mA hA => ?_)
          have hm2 := RFr_trans hm hA
          rw [RT_AE (AE_R hm)]
          refine v_iadd (n := 52) xB_189 dX11_mean_51 (by first | omega | (simp only [sA_same, sA_s, ud_s, Int.reduceEq, if_true, if_false, ite_true, ite_false, ↓reduceIte, and_true, true_and, eq_self, Int.add_zero, Int.reduceAdd]; omega) | (simp (disch := omega) only [sA_same, sA_ne, ud_eq, ud_ne, Int.add_zero, Int.reduceAdd]; omega)) rfl ?_
          refine v_istore_n3 (n := 53) xB_189 dX11_mean_52 rfl rfl ?_
          refine v_iinc4 (n := 56) xB_189 dX11_mean_53 rfl (by first | omega | (simp only [sA_same, sA_s, ud_s, Int.reduceEq, if_true, if_false, ite_true, ite_false, ↓reduceIte, and_true, true_and, eq_self, Int.add_zero, Int.reduceAdd]; omega) | (simp (disch := omega) only [sA_same, sA_ne, ud_eq, ud_ne, Int.add_zero, Int.reduceAdd]; omega)) rfl ?_
          refine v_goto (t := 34) xB_189 dX11_mean_56 (by decide) rfl ?_
          exact ih _ hm2 _ ⟨by rw [itN_s h1, ← he.1]; rfl, by omega, by omega⟩
        · exact RI_refl hR0
      · refine v_ldc2 (n := 28) xB_189 dX11_mean_25 xO_189 l2_11_377 rfl ?_
        refine v_lreturn xB_189 dX11_mean_28 xK_189 ?_
        refine q_eqL (o1 _ (RI_refl hR0)) ?_
        unfold ME
        rw [if_neg (by omega)]; rfl
    · refine v_if_eq_y (t := 25) xB_189 dX11_mean_15 (by decide) rfl (by decide) ?_
      refine v_ldc2 (n := 28) xB_189 dX11_mean_25 xO_189 l2_11_377 rfl ?_
      refine v_lreturn xB_189 dX11_mean_28 xK_189 ?_
      refine q_eqL (o1 _ (RI_refl hR0)) ?_
      unfold ME
      rw [if_neg (by omega)]; rfl
  · refine v_if_eq_y (t := 25) xB_189 dX11_mean_5 (by decide) rfl (by decide) ?_
    refine v_ldc2 (n := 28) xB_189 dX11_mean_25 xO_189 l2_11_377 rfl ?_
    refine v_lreturn xB_189 dX11_mean_28 xK_189 ?_
    refine q_eqL (o1 _ (RI_refl hR0)) ?_
    unfold ME
    rw [if_neg (by omega)]; rfl
theorem p_after (m0 : PM) (L : Nat) (t j w : Int) : PairI m0 L 88 172 [.inr (.inr 0), .inl t, .inl j, .inl w] [.inr (.inr 81), .inl t, .inl j, .inl w] := PairI_q (A := fun m CF => AF m CF t j w) (fun m dy CF hI hJ d Q hd h => k_after (by omega) hI hJ h) (fun m dy CF hI hJ d Q hd h => c_after (by omega) (RI_of hI hJ) h) (fun m m' CF h => by rw [AF_AE h])
theorem p_best (m0 : PM) (L : Nat) (j : Int) : PairI m0 L 89 174 [.inr (.inr 0), .inl j] [.inr (.inr 81), .inl j] := PairI_q (A := fun m CF => BF m CF j) (fun m dy CF hI hJ d Q hd h => k_best (by omega) hI hJ h) (fun m dy CF hI hJ d Q hd h => c_best (by omega) (RI_of hI hJ) h) (fun m m' CF h => by rw [BF_AE h])
theorem p_uses (m0 : PM) (L : Nat) (t j : Int) : PairI m0 L 90 175 [.inr (.inr 0), .inl t, .inl j] [.inr (.inr 81), .inl t, .inl j] := PairI_q (A := fun m CF => UF m CF t j) (fun m dy CF hI hJ d Q hd h => k_uses (by omega) hI hJ h) (fun m dy CF hI hJ d Q hd h => c_uses (by omega) (RI_of hI hJ) h) (fun m m' CF h => by rw [UF_AE h])
theorem p_way (m0 : PM) (L : Nat) (t j u o x : Int) : PairI m0 L 91 177 [.inr (.inr 0), .inl t, .inl j, .inl u, .inl o, .inl x] [.inr (.inr 81), .inl t, .inl j, .inl u, .inl o, .inl x] := PairI_q (A := fun m CF => WYF m CF t j u o x) (fun m dy CF hI hJ d Q hd h => k_way (by omega) hI hJ h) (fun m dy CF hI hJ d Q hd h => c_way (by omega) (RI_of hI hJ) h) (fun m m' CF h => by rw [WYF_AE h])
theorem p_twice (m0 : PM) (L : Nat) (j o x : Int) : PairI m0 L 92 178 [.inr (.inr 0), .inl j, .inl o, .inl x] [.inr (.inr 81), .inl j, .inl o, .inl x] := PairI_q (A := fun m CF => T2 m CF j o x) (fun m dy CF hI hJ d Q hd h => k_twice (by omega) hI hJ h) (fun m dy CF hI hJ d Q hd h => c_twice (by omega) (RI_of hI hJ) h) (fun m m' CF h => by rw [T2_AE h])
theorem p_which (m0 : PM) (L : Nat) (j : Int) : PairI m0 L 97 184 [.inr (.inr 0), .inl j] [.inr (.inr 81), .inl j] := PairI_q (A := fun m CF => WI m CF j) (fun m dy CF hI hJ d Q hd h => k_which (by omega) hI hJ h) (fun m dy CF hI hJ d Q hd h => c_which (by omega) (RI_of hI hJ) h) (fun m m' CF h => by rw [WI_AE h])
theorem p_can (m0 : PM) (L : Nat) (t j x : Int) : PairI m0 L 98 185 [.inr (.inr 0), .inl t, .inl j, .inl x] [.inr (.inr 81), .inl t, .inl j, .inl x] := PairI_q (A := fun m CF => CA m CF t j x) (fun m dy CF hI hJ d Q hd h => k_can (by omega) hI hJ h) (fun m dy CF hI hJ d Q hd h => c_can (by omega) (RI_of hI hJ) h) (fun m m' CF h => by rw [CA_AE h])
theorem p_odds (m0 : PM) (L : Nat) (j q p : Int) : PairL m0 L 99 188 [.inr (.inr 0), .inl j, .inl q, .inl p] [.inr (.inr 81), .inl j, .inl q, .inl p] := PairL_q (A := fun m CF => OD m CF j q p) (fun m dy CF hI hJ d Q hd h => k_odds (by omega) hI hJ h) (fun m dy CF hI hJ d Q hd h => c_odds (by omega) (RI_of hI hJ) h) (fun m m' CF h => by rw [OD_AE h])
theorem p_mean (m0 : PM) (L : Nat) (j p : Int) : PairL m0 L 100 189 [.inr (.inr 0), .inl j, .inl p] [.inr (.inr 81), .inl j, .inl p] := PairL_q (A := fun m CF => ME m CF j p) (fun m dy CF hI hJ d Q hd h => k_mean (by omega) hI hJ h) (fun m dy CF hI hJ d Q hd h => c_mean (by omega) (RI_of hI hJ) h) (fun m m' CF h => by rw [ME_AE h])
