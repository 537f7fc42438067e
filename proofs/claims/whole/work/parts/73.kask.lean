/-! What is asked: folds; the class, questions over all trays. -/
def itN {α : Type} (h : Int → α → α) : Nat → α → α
  | 0, s => s
  | n + 1, s => h n (itN h n s)
theorem itN_s {α : Type} {h : Int → α → α} {k : Int} (hk : 0 ≤ k) (s : α) : itN h (k + 1).toNat s = h k (itN h k.toNat s) := by
  rw [show (k + 1).toNat = k.toNat + 1 by omega, itN, show ((k.toNat : Nat) : Int) = k by omega]
def upS (x y : Int) (s : Int × Int) : Int × Int := if s.1 < x then (x, y) else s
theorem upS_y {x y : Int} {s : Int × Int} (h : s.1 < x) : upS x y s = (x, y) := if_pos h
theorem upS_n {x y : Int} {s : Int × Int} (h : ¬ s.1 < x) : upS x y s = s := if_neg h
def BF (m : PM) (CF : Int → CLs) (j : Int) : Int := if 0 ≤ j ∧ j < m 81 5 then (itN (fun t s => upS (RT m CF t j) t s) (m 81 0).toNat (-1, -5)).2 else -1
theorem BF_AE {m m' : PM} (h : AE m m') (CF : Int → CLs) : BF m' CF = BF m CF := by
  funext j; unfold BF; rw [RT_AE h, h.2.2.1, h.2.2.2.1]
theorem RT_in {m : PM} (h : 0 ≤ m 81 22 ∧ m 81 22 ≤ 12) (CF : Int → CLs) (t j : Int) : 0 ≤ RT m CF t j ∧ RT m CF t j ≤ 12 := by
  have := rtF_in h.1 (RA m CF t (m 83 t) j); unfold RT; omega
def WYF (m : PM) (CF : Int → CLs) (t j u o x : Int) : Int := if (0 ≤ t ∧ t < m 81 0) ∧ (0 ≤ j ∧ j < m 81 5) ∧ (0 ≤ u ∧ u < m 81 0) ∧ (0 ≤ o ∧ o < m 81 5) ∧ 0 ≤ x ∧ x ≤ 1 then (if x = 0 then (itN (fun w s => upS (R2 m CF w u o (RA m CF t (m 83 t) j)) w s) 4 (-1, 0)).2 else (itN (fun w s => upS (R2 m CF w u o (RA m CF t (m 83 t) j)) w s) 4 (-1, 0)).1) else -1
theorem WYF_AE {m m' : PM} (h : AE m m') (CF : Int → CLs) : WYF m' CF = WYF m CF := by
  funext t j u o x; unfold WYF; rw [R2_AE h, RA_AE h, h.2.2.1, h.2.2.2.1, h.2.2.2.2.2.1]
def WI (m : PM) (CF : Int → CLs) (j : Int) : Int := if 0 ≤ j ∧ j < m 81 5 then itN (fun t b => if SB m CF t (m 83 t) j = true then iOr b (2 ^ t.toNat) else b) (m 81 0).toNat (0 : Int) else -1
theorem WI_AE {m m' : PM} (h : AE m m') (CF : Int → CLs) : WI m' CF = WI m CF := by
  funext j; unfold WI; rw [SB_AE h, h.2.2.1, h.2.2.2.1, h.2.2.2.2.2.1]
def CS (m : PM) (CF : Int → CLs) (t j : Int) : Int → Int × Int → Int × Int := fun i s => if SB m CF t (9 - i) j = true then (s.1 + 1, 9 - i) else s
def CA (m : PM) (CF : Int → CLs) (t j x : Int) : Int := if (0 ≤ t ∧ t < m 81 0) ∧ (0 ≤ j ∧ j < m 81 5) ∧ 0 ≤ x ∧ x ≤ 1 then (if x = 0 then (itN (CS m CF t j) 10 (0, -5)).1 else (itN (CS m CF t j) 10 (0, -5)).2) else -1
theorem CA_AE {m m' : PM} (h : AE m m') (CF : Int → CLs) : CA m' CF = CA m CF := by
  funext t j x; unfold CA CS; rw [SB_AE h, h.2.2.1, h.2.2.2.1]
theorem p2_5 {y : Int} (h : 0 ≤ y ∧ y < 5) : 0 < (2 : Int) ^ y.toNat ∧ (2 : Int) ^ y.toNat < 32 := by
  rcases c5_of h with rfl | rfl | rfl | rfl | rfl <;> decide
theorem CS_y {m : PM} {CF : Int → CLs} {t j k : Int} {s : Int × Int} (h : SB m CF t k j = true) (hk : k ≤ 9) : CS m CF t j ((9 - k).toNat : Nat) s = (s.1 + 1, k) := by
  have e : 9 - (((9 - k).toNat : Nat) : Int) = k := by omega
  unfold CS; rw [e, if_pos h]
theorem CS_n {m : PM} {CF : Int → CLs} {t j k : Int} {s : Int × Int} (h : SB m CF t k j = false) (hk : k ≤ 9) : CS m CF t j ((9 - k).toNat : Nat) s = s := by
  have e : 9 - (((9 - k).toNat : Nat) : Int) = k := by omega
  unfold CS; rw [e, if_neg (by rw [h]; decide)]
theorem CS_s {m : PM} {CF : Int → CLs} {t j k : Int} (hk : k ≤ 9) (s : Int × Int) : itN (CS m CF t j) (9 - (k - 1)).toNat s = CS m CF t j ((9 - k).toNat : Nat) (itN (CS m CF t j) (9 - k).toNat s) := by
  rw [show (9 - (k - 1)).toNat = (9 - k).toNat + 1 by omega, itN]
set_option maxHeartbeats 1000000 in
theorem k_best {d : Nat} {m0 : PM} {CF : Int → CLs} {j : Int} {m : PM} {dy : List (Nat × Nat)} {L : Nat} {Q : Option PV → PS → Prop} (hd : 7 ≤ d) (hI : Inv m0 m dy) (hJ : JF m dy CF) (o1 : ∀ m' : PM, KFr m m' → Q (some (.inl (BF m CF j))) (m', (none, (dy, L)))) : C d 89 [.inr (.inr 0), .inl j] (m, (none, (dy, L))) Q := by
  refine C_go (k := 6) hd xL_89 (fun d hd => ?_)
  show V d 89 (0, ([some (.inr (.inr 0)), some (.inl j), none, none, none, none], ([], (m, (none, (dy, L)))))) Q
  obtain ⟨s1, s2, t1, t2, j1, j2⟩ := If hI
  refine v_aload_n (n := 1) xB_89 dX10_best_0 rfl rfl ?_
  refine v_iload_n (n := 2) xB_89 dX10_best_1 rfl rfl ?_
  refine v_call_v (n := 5) xB_89 dX10_best_2 xO_89 iv_10_162 rfl (sh_0 _ _ _) rfl rfl rfl ?_
  refine k_isJob (by omega) (by first | omega | (simp only [sA_same, sA_s, ud_s, Int.reduceEq, if_true, if_false, ite_true, ite_false, ↓reduceIte, and_true, true_and, eq_self, Int.add_zero, Int.reduceAdd]; omega) | (simp (disch := omega) only [sA_same, sA_ne, ud_eq, ud_ne, Int.add_zero, Int.reduceAdd]; omega)) (fun g1 => ?_) (fun g2 => ?_)
  · refine v_if_ne_y (t := 10) xB_89 dX10_best_5 (by decide) rfl (by decide) ?_
    refine v_iconst (n := 11) xB_89 dX10_best_10 ⟨by decide, by decide⟩ rfl ?_
    refine v_istore_n2 (n := 12) xB_89 dX10_best_11 rfl rfl ?_
    refine v_bipush (n := 14) xB_89 dX10_best_12 ⟨by decide, by decide⟩ rfl ?_
    refine v_istore_n3 (n := 15) xB_89 dX10_best_14 rfl rfl ?_
    refine v_iconst (n := 16) xB_89 dX10_best_15 ⟨by decide, by decide⟩ rfl ?_
    refine v_istore4 (n := 18) xB_89 dX10_best_16 rfl rfl ?_
    refine lp_up (F := fun (k : Int) (m' : PM) => ∀ x5 : Option PV, ∀ mo : Int, mo = (itN (fun t s => upS (RT m CF t j) t s) (k).toNat (-1, -5)).1 → ∀ fi : Int, fi = (itN (fun t s => upS (RT m CF t j) t s) (k).toNat (-1, -5)).2 → V d 89 (18, ([some (.inr (.inr 0)), some (.inl j), some (.inl mo), some (.inl fi), some (.inl (k)), x5], ([], (m', (none, (dy, L)))))) Q) (E := fun (k : Int) (m' : PM) => KFr m (m')) (a := 0) (b := m 81 0) ?_ ?_ (0) (_) (by first | omega | (simp only [sA_same, sA_s, ud_s, Int.reduceEq, if_true, if_false, ite_true, ite_false, ↓reduceIte, and_true, true_and, eq_self, Int.add_zero, Int.reduceAdd]; omega) | (simp (disch := omega) only [sA_same, sA_ne, ud_eq, ud_ne, Int.add_zero, Int.reduceAdd]; omega)) (by first | omega | (simp only [sA_same, sA_s, ud_s, Int.reduceEq, if_true, if_false, ite_true, ite_false, ↓reduceIte, and_true, true_and, eq_self, Int.add_zero, Int.reduceAdd]; omega) | (simp (disch := omega) only [sA_same, sA_ne, ud_eq, ud_ne, Int.add_zero, Int.reduceAdd]; omega)) ?_ _ _ rfl _ rfl
    · intro m' hm x5 mo hmo fi hfi
      show V d 89 (18, ([some (.inr (.inr 0)), some (.inl j), some (.inl mo), some (.inl fi), some (.inl (m 81 0)), x5], ([], (m', (none, (dy, L)))))) Q
      have e12 : m' 1 2 = m 81 0 := by rw [hm.1 1 (by omega)]; exact t2
      have e0 : m' 81 0 = m 81 0 := by rw [hm.1 81 (by omega)]
      have e5 : m' 81 5 = m 81 5 := by rw [hm.1 81 (by omega)]
      have e22 : m' 81 22 = m 81 22 := by rw [hm.1 81 (by omega)]
      refine v_iload (n := 20) xB_89 dX10_best_18 rfl rfl ?_
      refine v_aload_n (n := 21) xB_89 dX10_best_20 rfl rfl ?_
      refine v_gf_s (n := 24) (kz := 0) xB_89 dX10_best_21 xO_89 fl_10_12 fg_10_0 (sh_0 _ _ _) rfl st_0_0 rfl ?_
      refine v_gf_i (n := 27) (kz := 2) xB_89 dX10_best_24 xO_89 fl_10_65 fg_6_2 rfl (sh_1 _ _ _) rfl rfl ?_
      refine v_ic_ge_y (t := 57) xB_89 dX10_best_27 (by decide) rfl (by first | omega | (simp only [sA_same, sA_s, ud_s, Int.reduceEq, if_true, if_false, ite_true, ite_false, ↓reduceIte, and_true, true_and, eq_self, Int.add_zero, Int.reduceAdd]; omega) | (simp (disch := omega) only [sA_same, sA_ne, ud_eq, ud_ne, Int.add_zero, Int.reduceAdd]; omega)) ?_
      refine v_iload_n (n := 58) xB_89 dX10_best_57 rfl rfl ?_
      refine v_ireturn0 xB_89 dX10_best_58 xK_89 ?_
      refine q_eqI (o1 _ hm) ?_
      unfold BF
      rw [if_pos (by omega)]
      exact hfi.symm
    · intro k m' h1 h2 hm ih x5 mo hmo fi hfi
      show V d 89 (18, ([some (.inr (.inr 0)), some (.inl j), some (.inl mo), some (.inl fi), some (.inl (k)), x5], ([], (m', (none, (dy, L)))))) Q
      have e12 : m' 1 2 = m 81 0 := by rw [hm.1 1 (by omega)]; exact t2
      have e0 : m' 81 0 = m 81 0 := by rw [hm.1 81 (by omega)]
      have e5 : m' 81 5 = m 81 5 := by rw [hm.1 81 (by omega)]
      have e22 : m' 81 22 = m 81 22 := by rw [hm.1 81 (by omega)]
      refine v_iload (n := 20) xB_89 dX10_best_18 rfl rfl ?_
      refine v_aload_n (n := 21) xB_89 dX10_best_20 rfl rfl ?_
      refine v_gf_s (n := 24) (kz := 0) xB_89 dX10_best_21 xO_89 fl_10_12 fg_10_0 (sh_0 _ _ _) rfl st_0_0 rfl ?_
      refine v_gf_i (n := 27) (kz := 2) xB_89 dX10_best_24 xO_89 fl_10_65 fg_6_2 rfl (sh_1 _ _ _) rfl rfl ?_
      refine v_ic_ge_n (n := 30) xB_89 dX10_best_27 (by decide) rfl (by first | omega | (simp only [sA_same, sA_s, ud_s, Int.reduceEq, if_true, if_false, ite_true, ite_false, ↓reduceIte, and_true, true_and, eq_self, Int.add_zero, Int.reduceAdd]; omega) | (simp (disch := omega) only [sA_same, sA_ne, ud_eq, ud_ne, Int.add_zero, Int.reduceAdd]; omega)) ?_
      refine v_aload_n (n := 31) xB_89 dX10_best_30 rfl rfl ?_
      refine v_iload (n := 33) xB_89 dX10_best_31 rfl rfl ?_
      refine v_iload_n (n := 34) xB_89 dX10_best_33 rfl rfl ?_
      refine v_call_v (n := 37) xB_89 dX10_best_34 xO_89 iv_10_186 rfl (sh_0 _ _ _) rfl rfl rfl ?_
      refine k_rightsAfter (by omega) (Inv_K hI hm) (JF_K hJ hm) (by first | omega | (simp only [sA_same, sA_s, ud_s, Int.reduceEq, if_true, if_false, ite_true, ite_false, ↓reduceIte, and_true, true_and, eq_self, Int.add_zero, Int.reduceAdd]; omega) | (simp (disch := omega) only [sA_same, sA_ne, ud_eq, ud_ne, Int.add_zero, Int.reduceAdd]; omega)) (by first | omega | (simp only [sA_same, sA_s, ud_s, Int.reduceEq, if_true, if_false, ite_true, ite_false, ↓reduceIte, and_true, true_and, eq_self, Int.add_zero, Int.reduceAdd]; omega) | (simp (disch := omega) only [sA_same, sA_ne, ud_eq, ud_ne, Int.add_zero, Int.reduceAdd]; omega)) (fun mA hK => ?_)
      have hm2 := KFr_trans hm hK
      rw [RT_AE (AE_K hm)]
      refine v_istore5 (n := 39) xB_89 dX10_best_37 rfl rfl ?_
      refine v_iload (n := 41) xB_89 dX10_best_39 rfl rfl ?_
      refine v_iload_n (n := 42) xB_89 dX10_best_41 rfl rfl ?_
      refine v_ic_le (t := 51) (n := 45) xB_89 dX10_best_42 (by decide) rfl rfl (fun g1 => ?_) (fun g1 => ?_)
      · refine v_iinc4 (n := 54) xB_89 dX10_best_51 rfl (by first | omega | (simp only [sA_same, sA_s, ud_s, Int.reduceEq, if_true, if_false, ite_true, ite_false, ↓reduceIte, and_true, true_and, eq_self, Int.add_zero, Int.reduceAdd]; omega) | (simp (disch := omega) only [sA_same, sA_ne, ud_eq, ud_ne, Int.add_zero, Int.reduceAdd]; omega)) rfl ?_
        refine v_goto (t := 18) xB_89 dX10_best_54 (by decide) rfl ?_
        first
        | exact ih _ hm2 _ _ (by rw [itN_s h1, upS_n (by (try dsimp only); rw [← hmo]; omega)]; exact hmo) _ (by rw [itN_s h1, upS_n (by (try dsimp only); rw [← hmo]; omega)]; exact hfi)
        | exact ih _ hm2 _ _ (by rw [itN_s h1, upS_y (by (try dsimp only); rw [← hmo]; omega)]) _ (by rw [itN_s h1, upS_y (by (try dsimp only); rw [← hmo]; omega)])
      · refine v_iload (n := 47) xB_89 dX10_best_45 rfl rfl ?_
        refine v_istore_n2 (n := 48) xB_89 dX10_best_47 rfl rfl ?_
        refine v_iload (n := 50) xB_89 dX10_best_48 rfl rfl ?_
        refine v_istore_n3 (n := 51) xB_89 dX10_best_50 rfl rfl ?_
        refine v_iinc4 (n := 54) xB_89 dX10_best_51 rfl (by first | omega | (simp only [sA_same, sA_s, ud_s, Int.reduceEq, if_true, if_false, ite_true, ite_false, ↓reduceIte, and_true, true_and, eq_self, Int.add_zero, Int.reduceAdd]; omega) | (simp (disch := omega) only [sA_same, sA_ne, ud_eq, ud_ne, Int.add_zero, Int.reduceAdd]; omega)) rfl ?_
        refine v_goto (t := 18) xB_89 dX10_best_54 (by decide) rfl ?_
        first
        | exact ih _ hm2 _ _ (by rw [itN_s h1, upS_n (by (try dsimp only); rw [← hmo]; omega)]; exact hmo) _ (by rw [itN_s h1, upS_n (by (try dsimp only); rw [← hmo]; omega)]; exact hfi)
        | exact ih _ hm2 _ _ (by rw [itN_s h1, upS_y (by (try dsimp only); rw [← hmo]; omega)]) _ (by rw [itN_s h1, upS_y (by (try dsimp only); rw [← hmo]; omega)])
    · exact KFr_refl hI
  · refine v_if_ne_n (n := 8) xB_89 dX10_best_5 (by decide) rfl (by decide) ?_
    refine v_iconst (n := 9) xB_89 dX10_best_8 ⟨by decide, by decide⟩ rfl ?_
    refine v_ireturn0 xB_89 dX10_best_9 xK_89 ?_
    refine q_eqI (o1 _ (KFr_refl hI)) ?_
    unfold BF
    rw [if_neg (by omega)]
set_option maxHeartbeats 1000000 in
theorem k_way {d : Nat} {m0 : PM} {CF : Int → CLs} {t j u o x : Int} {m : PM} {dy : List (Nat × Nat)} {L : Nat} {Q : Option PV → PS → Prop} (hd : 7 ≤ d) (hI : Inv m0 m dy) (hJ : JF m dy CF) (o1 : ∀ m' : PM, KFr m m' → Q (some (.inl (WYF m CF t j u o x))) (m', (none, (dy, L)))) : C d 91 [.inr (.inr 0), .inl t, .inl j, .inl u, .inl o, .inl x] (m, (none, (dy, L))) Q := by
  refine C_go (k := 6) hd xL_91 (fun d hd => ?_)
  show V d 91 (0, ([some (.inr (.inr 0)), some (.inl t), some (.inl j), some (.inl u), some (.inl o), some (.inl x), none, none, none, none], ([], (m, (none, (dy, L)))))) Q
  obtain ⟨s1, s2, t1, t2, j1, j2⟩ := If hI
  have It0 : 0 ≤ t → t < 5 → _ := fun a b => It hI (t := t) ⟨a, b⟩
  refine v_aload_n (n := 1) xB_91 dX10_way_0 rfl rfl ?_
  refine v_iload_n (n := 2) xB_91 dX10_way_1 rfl rfl ?_
  refine v_call_v (n := 5) xB_91 dX10_way_2 xO_91 iv_10_96 rfl (sh_0 _ _ _) rfl rfl rfl ?_
  refine k_isTray (by omega) (by first | omega | (simp only [sA_same, sA_s, ud_s, Int.reduceEq, if_true, if_false, ite_true, ite_false, ↓reduceIte, and_true, true_and, eq_self, Int.add_zero, Int.reduceAdd]; omega) | (simp (disch := omega) only [sA_same, sA_ne, ud_eq, ud_ne, Int.add_zero, Int.reduceAdd]; omega)) (fun g1 => ?_) (fun g2 => ?_)
  · refine v_if_eq_n (n := 8) xB_91 dX10_way_5 (by decide) rfl (by decide) ?_
    refine v_aload_n (n := 9) xB_91 dX10_way_8 rfl rfl ?_
    refine v_iload_n (n := 10) xB_91 dX10_way_9 rfl rfl ?_
    refine v_call_v (n := 13) xB_91 dX10_way_10 xO_91 iv_10_162 rfl (sh_0 _ _ _) rfl rfl rfl ?_
    refine k_isJob (by omega) (by first | omega | (simp only [sA_same, sA_s, ud_s, Int.reduceEq, if_true, if_false, ite_true, ite_false, ↓reduceIte, and_true, true_and, eq_self, Int.add_zero, Int.reduceAdd]; omega) | (simp (disch := omega) only [sA_same, sA_ne, ud_eq, ud_ne, Int.add_zero, Int.reduceAdd]; omega)) (fun g3 => ?_) (fun g4 => ?_)
    · refine v_if_eq_n (n := 16) xB_91 dX10_way_13 (by decide) rfl (by decide) ?_
      refine v_aload_n (n := 17) xB_91 dX10_way_16 rfl rfl ?_
      refine v_iload_n (n := 18) xB_91 dX10_way_17 rfl rfl ?_
      refine v_call_v (n := 21) xB_91 dX10_way_18 xO_91 iv_10_96 rfl (sh_0 _ _ _) rfl rfl rfl ?_
      refine k_isTray (by omega) (by first | omega | (simp only [sA_same, sA_s, ud_s, Int.reduceEq, if_true, if_false, ite_true, ite_false, ↓reduceIte, and_true, true_and, eq_self, Int.add_zero, Int.reduceAdd]; omega) | (simp (disch := omega) only [sA_same, sA_ne, ud_eq, ud_ne, Int.add_zero, Int.reduceAdd]; omega)) (fun g5 => ?_) (fun g6 => ?_)
      · refine v_if_eq_n (n := 24) xB_91 dX10_way_21 (by decide) rfl (by decide) ?_
        refine v_aload_n (n := 25) xB_91 dX10_way_24 rfl rfl ?_
        refine v_iload (n := 27) xB_91 dX10_way_25 rfl rfl ?_
        refine v_call_v (n := 30) xB_91 dX10_way_27 xO_91 iv_10_162 rfl (sh_0 _ _ _) rfl rfl rfl ?_
        refine k_isJob (by omega) (by first | omega | (simp only [sA_same, sA_s, ud_s, Int.reduceEq, if_true, if_false, ite_true, ite_false, ↓reduceIte, and_true, true_and, eq_self, Int.add_zero, Int.reduceAdd]; omega) | (simp (disch := omega) only [sA_same, sA_ne, ud_eq, ud_ne, Int.add_zero, Int.reduceAdd]; omega)) (fun g7 => ?_) (fun g8 => ?_)
        · refine v_if_eq_n (n := 33) xB_91 dX10_way_30 (by decide) rfl (by decide) ?_
          refine v_iload (n := 35) xB_91 dX10_way_33 rfl rfl ?_
          refine v_call_s (n := 38) xB_91 dX10_way_35 xO_91 sp_10_82 (Or.inl rfl) iv_10_82 rfl rfl rfl rfl ?_
          refine k_isEither (by omega)  (fun g9 => ?_) (fun g10 => ?_)
          · refine v_if_ne_y (t := 43) xB_91 dX10_way_38 (by decide) rfl (by decide) ?_
            obtain ⟨i1, i2, i3, i4, i5, i6⟩ := It0 (by omega) (by omega)
            refine v_aload_n (n := 44) xB_91 dX10_way_43 rfl rfl ?_
            refine v_iload_n (n := 45) xB_91 dX10_way_44 rfl rfl ?_
            refine v_aload_n (n := 46) xB_91 dX10_way_45 rfl rfl ?_
            refine v_gf_s (n := 49) (kz := 0) xB_91 dX10_way_46 xO_91 fl_10_12 fg_10_0 (sh_0 _ _ _) rfl st_0_0 rfl ?_
            refine v_gf_s (n := 52) (kz := 1) xB_91 dX10_way_49 xO_91 fl_10_86 fg_6_1 (sh_1 _ _ _) rfl st_1_1 rfl ?_
            refine v_iload_n (n := 53) xB_91 dX10_way_52 rfl rfl ?_
            refine v_aald_s (n := 54) (lz := 5) xB_91 dX10_way_53 (sh_4 _ _ _) (by decide) rfl (by first | omega | (simp only [sA_same, sA_s, ud_s, Int.reduceEq, if_true, if_false, ite_true, ite_false, ↓reduceIte, and_true, true_and, eq_self, Int.add_zero, Int.reduceAdd]; omega) | (simp (disch := omega) only [sA_same, sA_ne, ud_eq, ud_ne, Int.add_zero, Int.reduceAdd]; omega)) (st_T (by omega)) rfl ?_
            refine v_gf_i (n := 57) (kz := 1) xB_91 dX10_way_54 xO_91 fl_10_102 fg_9_1 rfl (sh_T (by first | omega | (simp only [sA_same, sA_s, ud_s, Int.reduceEq, if_true, if_false, ite_true, ite_false, ↓reduceIte, and_true, true_and, eq_self, Int.add_zero, Int.reduceAdd]; omega) | (simp (disch := omega) only [sA_same, sA_ne, ud_eq, ud_ne, Int.add_zero, Int.reduceAdd]; omega)) _ _ _) rfl rfl ?_
            refine v_iload_n (n := 58) xB_91 dX10_way_57 rfl rfl ?_
            refine v_call_v (n := 61) xB_91 dX10_way_58 xO_91 iv_10_182 rfl (sh_0 _ _ _) rfl rfl rfl ?_
            refine k_tryRun (by omega) hI hJ (by first | omega | (simp only [sA_same, sA_s, ud_s, Int.reduceEq, if_true, if_false, ite_true, ite_false, ↓reduceIte, and_true, true_and, eq_self, Int.add_zero, Int.reduceAdd]; omega) | (simp (disch := omega) only [sA_same, sA_ne, ud_eq, ud_ne, Int.add_zero, Int.reduceAdd]; omega)) (by first | omega | (simp only [sA_same, sA_s, ud_s, Int.reduceEq, if_true, if_false, ite_true, ite_false, ↓reduceIte, and_true, true_and, eq_self, Int.add_zero, Int.reduceAdd]; omega) | (simp (disch := omega) only [sA_same, sA_ne, ud_eq, ud_ne, Int.add_zero, Int.reduceAdd]; omega)) (by first | omega | (simp only [sA_same, sA_s, ud_s, Int.reduceEq, if_true, if_false, ite_true, ite_false, ↓reduceIte, and_true, true_and, eq_self, Int.add_zero, Int.reduceAdd]; omega) | (simp (disch := omega) only [sA_same, sA_ne, ud_eq, ud_ne, Int.add_zero, Int.reduceAdd]; omega)) (fun mA hK e62 e63 e60 e61 => ?_)
            rw [i2] at e63
            refine v_iconst (n := 62) xB_91 dX10_way_61 ⟨by decide, by decide⟩ rfl ?_
            refine v_istore6 (n := 64) xB_91 dX10_way_62 rfl rfl ?_
            refine v_iconst (n := 65) xB_91 dX10_way_64 ⟨by decide, by decide⟩ rfl ?_
            refine v_istore7 (n := 67) xB_91 dX10_way_65 rfl rfl ?_
            refine v_iconst (n := 68) xB_91 dX10_way_67 ⟨by decide, by decide⟩ rfl ?_
            refine v_istore8 (n := 70) xB_91 dX10_way_68 rfl rfl ?_
            refine lp_up (F := fun (k : Int) (m' : PM) => ∀ x9 : Option PV, ∀ mo : Int, mo = (itN (fun w s => upS (R2 m CF w u o (RA m CF t (m 83 t) j)) w s) (k).toNat (-1, 0)).1 → ∀ fi : Int, fi = (itN (fun w s => upS (R2 m CF w u o (RA m CF t (m 83 t) j)) w s) (k).toNat (-1, 0)).2 → V d 91 (70, ([some (.inr (.inr 0)), some (.inl t), some (.inl j), some (.inl u), some (.inl o), some (.inl x), some (.inl mo), some (.inl fi), some (.inl (k)), x9], ([], (m', (none, (dy, L)))))) Q) (E := fun (k : Int) (m' : PM) => KFr m (m') ∧ (m') 62 1 = m 81 22 ∧ (∀ s, 0 ≤ s → s < m 81 22 → (m') 63 s = (RA m CF t (m 83 t) j) s)) (a := 0) (b := 4) ?_ ?_ (0) (_) (by first | omega | (simp only [sA_same, sA_s, ud_s, Int.reduceEq, if_true, if_false, ite_true, ite_false, ↓reduceIte, and_true, true_and, eq_self, Int.add_zero, Int.reduceAdd]; omega) | (simp (disch := omega) only [sA_same, sA_ne, ud_eq, ud_ne, Int.add_zero, Int.reduceAdd]; omega)) (by first | omega | (simp only [sA_same, sA_s, ud_s, Int.reduceEq, if_true, if_false, ite_true, ite_false, ↓reduceIte, and_true, true_and, eq_self, Int.add_zero, Int.reduceAdd]; omega) | (simp (disch := omega) only [sA_same, sA_ne, ud_eq, ud_ne, Int.add_zero, Int.reduceAdd]; omega)) ?_ _ _ rfl _ rfl
            · intro m' hm x9 mo hmo fi hfi
              show V d 91 (70, ([some (.inr (.inr 0)), some (.inl t), some (.inl j), some (.inl u), some (.inl o), some (.inl x), some (.inl mo), some (.inl fi), some (.inl (4)), x9], ([], (m', (none, (dy, L)))))) Q
              have e12 : m' 1 2 = m 81 0 := by rw [hm.1.1 1 (by omega)]; exact t2
              have e0 : m' 81 0 = m 81 0 := by rw [hm.1.1 81 (by omega)]
              have e5 : m' 81 5 = m 81 5 := by rw [hm.1.1 81 (by omega)]
              have e22 : m' 81 22 = m 81 22 := by rw [hm.1.1 81 (by omega)]
              refine v_iload (n := 72) xB_91 dX10_way_70 rfl rfl ?_
              refine v_iconst (n := 73) xB_91 dX10_way_72 ⟨by decide, by decide⟩ rfl ?_
              refine v_ic_ge_y (t := 108) xB_91 dX10_way_73 (by decide) rfl (by first | omega | (simp only [sA_same, sA_s, ud_s, Int.reduceEq, if_true, if_false, ite_true, ite_false, ↓reduceIte, and_true, true_and, eq_self, Int.add_zero, Int.reduceAdd]; omega) | (simp (disch := omega) only [sA_same, sA_ne, ud_eq, ud_ne, Int.add_zero, Int.reduceAdd]; omega)) ?_
              refine v_iload (n := 110) xB_91 dX10_way_108 rfl rfl ?_
              refine v_if_ne (t := 118) (n := 113) xB_91 dX10_way_110 (by decide) rfl rfl (fun g1 => ?_) (fun g1 => ?_)
              · refine v_iload (n := 120) xB_91 dX10_way_118 rfl rfl ?_
                refine v_ireturn0 xB_91 dX10_way_120 xK_91 ?_
                refine q_eqI (o1 _ hm.1) ?_
                unfold WYF
                rw [if_pos (by omega)]
                first | (rw [if_pos (by omega)]; exact hfi.symm) | (rw [if_neg (by omega)]; exact hmo.symm)
              · refine v_iload (n := 115) xB_91 dX10_way_113 rfl rfl ?_
                refine v_goto (t := 120) xB_91 dX10_way_115 (by decide) rfl ?_
                refine v_ireturn0 xB_91 dX10_way_120 xK_91 ?_
                refine q_eqI (o1 _ hm.1) ?_
                unfold WYF
                rw [if_pos (by omega)]
                first | (rw [if_pos (by omega)]; exact hfi.symm) | (rw [if_neg (by omega)]; exact hmo.symm)
            · intro k m' h1 h2 hm ih x9 mo hmo fi hfi
              show V d 91 (70, ([some (.inr (.inr 0)), some (.inl t), some (.inl j), some (.inl u), some (.inl o), some (.inl x), some (.inl mo), some (.inl fi), some (.inl (k)), x9], ([], (m', (none, (dy, L)))))) Q
              have e12 : m' 1 2 = m 81 0 := by rw [hm.1.1 1 (by omega)]; exact t2
              have e0 : m' 81 0 = m 81 0 := by rw [hm.1.1 81 (by omega)]
              have e5 : m' 81 5 = m 81 5 := by rw [hm.1.1 81 (by omega)]
              have e22 : m' 81 22 = m 81 22 := by rw [hm.1.1 81 (by omega)]
              refine v_iload (n := 72) xB_91 dX10_way_70 rfl rfl ?_
              refine v_iconst (n := 73) xB_91 dX10_way_72 ⟨by decide, by decide⟩ rfl ?_
              refine v_ic_ge_n (n := 76) xB_91 dX10_way_73 (by decide) rfl (by first | omega | (simp only [sA_same, sA_s, ud_s, Int.reduceEq, if_true, if_false, ite_true, ite_false, ↓reduceIte, and_true, true_and, eq_self, Int.add_zero, Int.reduceAdd]; omega) | (simp (disch := omega) only [sA_same, sA_ne, ud_eq, ud_ne, Int.add_zero, Int.reduceAdd]; omega)) ?_
              refine v_aload_n (n := 77) xB_91 dX10_way_76 rfl rfl ?_
              refine v_iload (n := 79) xB_91 dX10_way_77 rfl rfl ?_
              refine v_iload_n (n := 80) xB_91 dX10_way_79 rfl rfl ?_
              refine v_iload (n := 82) xB_91 dX10_way_80 rfl rfl ?_
              refine v_call_v (n := 85) xB_91 dX10_way_82 xO_91 iv_10_192 rfl (sh_0 _ _ _) rfl rfl rfl ?_
              refine k_rightsBehind (by omega) (Inv_K hI hm.1) (JF_K hJ hm.1) (by first | omega | (simp only [sA_same, sA_s, ud_s, Int.reduceEq, if_true, if_false, ite_true, ite_false, ↓reduceIte, and_true, true_and, eq_self, Int.add_zero, Int.reduceAdd]; omega) | (simp (disch := omega) only [sA_same, sA_ne, ud_eq, ud_ne, Int.add_zero, Int.reduceAdd]; omega)) (by first | omega | (simp only [sA_same, sA_s, ud_s, Int.reduceEq, if_true, if_false, ite_true, ite_false, ↓reduceIte, and_true, true_and, eq_self, Int.add_zero, Int.reduceAdd]; omega) | (simp (disch := omega) only [sA_same, sA_ne, ud_eq, ud_ne, Int.add_zero, Int.reduceAdd]; omega)) (by first | omega | (simp only [sA_same, sA_s, ud_s, Int.reduceEq, if_true, if_false, ite_true, ite_false, ↓reduceIte, and_true, true_and, eq_self, Int.add_zero, Int.reduceAdd]; omega) | (simp (disch := omega) only [sA_same, sA_ne, ud_eq, ud_ne, Int.add_zero, Int.reduceAdd]; omega)) (by rw [e22]; exact hm.2.1) (fun s a b => hm.2.2 s a (by rw [← e22]; exact b)) (fun mA hK g62 g63 => ?_)
              have hm2 : KFr m (mA) ∧ (mA) 62 1 = m 81 22 ∧ (∀ s, 0 ≤ s → s < m 81 22 → (mA) 63 s = (RA m CF t (m 83 t) j) s) := ⟨KFr_trans hm.1 hK, by rw [g62]; exact hm.2.1, by rw [g63]; exact hm.2.2⟩
              rw [R2_AE (AE_K hm.1)]
              refine v_istore9 (n := 87) xB_91 dX10_way_85 rfl rfl ?_
              refine v_iload (n := 89) xB_91 dX10_way_87 rfl rfl ?_
              refine v_iload (n := 91) xB_91 dX10_way_89 rfl rfl ?_
              refine v_ic_le (t := 102) (n := 94) xB_91 dX10_way_91 (by decide) rfl rfl (fun g1 => ?_) (fun g1 => ?_)
              · refine v_iinc8 (n := 105) xB_91 dX10_way_102 rfl (by first | omega | (simp only [sA_same, sA_s, ud_s, Int.reduceEq, if_true, if_false, ite_true, ite_false, ↓reduceIte, and_true, true_and, eq_self, Int.add_zero, Int.reduceAdd]; omega) | (simp (disch := omega) only [sA_same, sA_ne, ud_eq, ud_ne, Int.add_zero, Int.reduceAdd]; omega)) rfl ?_
                refine v_goto (t := 70) xB_91 dX10_way_105 (by decide) rfl ?_
                first
                | exact ih _ hm2 _ _ (by rw [itN_s h1, upS_n (by (try dsimp only); rw [← hmo]; omega)]; exact hmo) _ (by rw [itN_s h1, upS_n (by (try dsimp only); rw [← hmo]; omega)]; exact hfi)
                | exact ih _ hm2 _ _ (by rw [itN_s h1, upS_y (by (try dsimp only); rw [← hmo]; omega)]) _ (by rw [itN_s h1, upS_y (by (try dsimp only); rw [← hmo]; omega)])
              · refine v_iload (n := 96) xB_91 dX10_way_94 rfl rfl ?_
                refine v_istore6 (n := 98) xB_91 dX10_way_96 rfl rfl ?_
                refine v_iload (n := 100) xB_91 dX10_way_98 rfl rfl ?_
                refine v_istore7 (n := 102) xB_91 dX10_way_100 rfl rfl ?_
                refine v_iinc8 (n := 105) xB_91 dX10_way_102 rfl (by first | omega | (simp only [sA_same, sA_s, ud_s, Int.reduceEq, if_true, if_false, ite_true, ite_false, ↓reduceIte, and_true, true_and, eq_self, Int.add_zero, Int.reduceAdd]; omega) | (simp (disch := omega) only [sA_same, sA_ne, ud_eq, ud_ne, Int.add_zero, Int.reduceAdd]; omega)) rfl ?_
                refine v_goto (t := 70) xB_91 dX10_way_105 (by decide) rfl ?_
                first
                | exact ih _ hm2 _ _ (by rw [itN_s h1, upS_n (by (try dsimp only); rw [← hmo]; omega)]; exact hmo) _ (by rw [itN_s h1, upS_n (by (try dsimp only); rw [← hmo]; omega)]; exact hfi)
                | exact ih _ hm2 _ _ (by rw [itN_s h1, upS_y (by (try dsimp only); rw [← hmo]; omega)]) _ (by rw [itN_s h1, upS_y (by (try dsimp only); rw [← hmo]; omega)])
            · exact ⟨hK, e62, e63⟩
          · refine v_if_ne_n (n := 41) xB_91 dX10_way_38 (by decide) rfl (by decide) ?_
            refine v_iconst (n := 42) xB_91 dX10_way_41 ⟨by decide, by decide⟩ rfl ?_
            refine v_ireturn0 xB_91 dX10_way_42 xK_91 ?_
            refine q_eqI (o1 _ (KFr_refl hI)) ?_
            unfold WYF
            rw [if_neg (by omega)]
        · refine v_if_eq_y (t := 41) xB_91 dX10_way_30 (by decide) rfl (by decide) ?_
          refine v_iconst (n := 42) xB_91 dX10_way_41 ⟨by decide, by decide⟩ rfl ?_
          refine v_ireturn0 xB_91 dX10_way_42 xK_91 ?_
          refine q_eqI (o1 _ (KFr_refl hI)) ?_
          unfold WYF
          rw [if_neg (by omega)]
      · refine v_if_eq_y (t := 41) xB_91 dX10_way_21 (by decide) rfl (by decide) ?_
        refine v_iconst (n := 42) xB_91 dX10_way_41 ⟨by decide, by decide⟩ rfl ?_
        refine v_ireturn0 xB_91 dX10_way_42 xK_91 ?_
        refine q_eqI (o1 _ (KFr_refl hI)) ?_
        unfold WYF
        rw [if_neg (by omega)]
    · refine v_if_eq_y (t := 41) xB_91 dX10_way_13 (by decide) rfl (by decide) ?_
      refine v_iconst (n := 42) xB_91 dX10_way_41 ⟨by decide, by decide⟩ rfl ?_
      refine v_ireturn0 xB_91 dX10_way_42 xK_91 ?_
      refine q_eqI (o1 _ (KFr_refl hI)) ?_
      unfold WYF
      rw [if_neg (by omega)]
  · refine v_if_eq_y (t := 41) xB_91 dX10_way_5 (by decide) rfl (by decide) ?_
    refine v_iconst (n := 42) xB_91 dX10_way_41 ⟨by decide, by decide⟩ rfl ?_
    refine v_ireturn0 xB_91 dX10_way_42 xK_91 ?_
    refine q_eqI (o1 _ (KFr_refl hI)) ?_
    unfold WYF
    rw [if_neg (by omega)]
set_option maxHeartbeats 1000000 in
theorem k_which {d : Nat} {m0 : PM} {CF : Int → CLs} {j : Int} {m : PM} {dy : List (Nat × Nat)} {L : Nat} {Q : Option PV → PS → Prop} (hd : 7 ≤ d) (hI : Inv m0 m dy) (hJ : JF m dy CF) (o1 : ∀ m' : PM, KFr m m' → Q (some (.inl (WI m CF j))) (m', (none, (dy, L)))) : C d 97 [.inr (.inr 0), .inl j] (m, (none, (dy, L))) Q := by
  refine C_go (k := 6) hd xL_97 (fun d hd => ?_)
  show V d 97 (0, ([some (.inr (.inr 0)), some (.inl j), none, none], ([], (m, (none, (dy, L)))))) Q
  obtain ⟨s1, s2, t1, t2, j1, j2⟩ := If hI
  refine v_aload_n (n := 1) xB_97 dX10_which_0 rfl rfl ?_
  refine v_iload_n (n := 2) xB_97 dX10_which_1 rfl rfl ?_
  refine v_call_v (n := 5) xB_97 dX10_which_2 xO_97 iv_10_162 rfl (sh_0 _ _ _) rfl rfl rfl ?_
  refine k_isJob (by omega) (by first | omega | (simp only [sA_same, sA_s, ud_s, Int.reduceEq, if_true, if_false, ite_true, ite_false, ↓reduceIte, and_true, true_and, eq_self, Int.add_zero, Int.reduceAdd]; omega) | (simp (disch := omega) only [sA_same, sA_ne, ud_eq, ud_ne, Int.add_zero, Int.reduceAdd]; omega)) (fun g1 => ?_) (fun g2 => ?_)
  · refine v_if_ne_y (t := 10) xB_97 dX10_which_5 (by decide) rfl (by decide) ?_
    refine v_iconst (n := 11) xB_97 dX10_which_10 ⟨by decide, by decide⟩ rfl ?_
    refine v_istore_n2 (n := 12) xB_97 dX10_which_11 rfl rfl ?_
    refine v_iconst (n := 13) xB_97 dX10_which_12 ⟨by decide, by decide⟩ rfl ?_
    refine v_istore_n3 (n := 14) xB_97 dX10_which_13 rfl rfl ?_
    refine lp_up (F := fun (k : Int) (m' : PM) => ∀ mo : Int, mo = itN (fun t b => if SB m CF t (m 83 t) j = true then iOr b (2 ^ t.toNat) else b) (k).toNat (0 : Int) → V d 97 (14, ([some (.inr (.inr 0)), some (.inl j), some (.inl mo), some (.inl (k))], ([], (m', (none, (dy, L)))))) Q) (E := fun (k : Int) (m' : PM) => KFr m (m')) (a := 0) (b := m 81 0) ?_ ?_ (0) (_) (by first | omega | (simp only [sA_same, sA_s, ud_s, Int.reduceEq, if_true, if_false, ite_true, ite_false, ↓reduceIte, and_true, true_and, eq_self, Int.add_zero, Int.reduceAdd]; omega) | (simp (disch := omega) only [sA_same, sA_ne, ud_eq, ud_ne, Int.add_zero, Int.reduceAdd]; omega)) (by first | omega | (simp only [sA_same, sA_s, ud_s, Int.reduceEq, if_true, if_false, ite_true, ite_false, ↓reduceIte, and_true, true_and, eq_self, Int.add_zero, Int.reduceAdd]; omega) | (simp (disch := omega) only [sA_same, sA_ne, ud_eq, ud_ne, Int.add_zero, Int.reduceAdd]; omega)) ?_ _ rfl
    · intro m' hm mo hmo
      show V d 97 (14, ([some (.inr (.inr 0)), some (.inl j), some (.inl mo), some (.inl (m 81 0))], ([], (m', (none, (dy, L)))))) Q
      have e12 : m' 1 2 = m 81 0 := by rw [hm.1 1 (by omega)]; exact t2
      have e0 : m' 81 0 = m 81 0 := by rw [hm.1 81 (by omega)]
      have e5 : m' 81 5 = m 81 5 := by rw [hm.1 81 (by omega)]
      have e22 : m' 81 22 = m 81 22 := by rw [hm.1 81 (by omega)]
      refine v_iload_n (n := 15) xB_97 dX10_which_14 rfl rfl ?_
      refine v_aload_n (n := 16) xB_97 dX10_which_15 rfl rfl ?_
      refine v_gf_s (n := 19) (kz := 0) xB_97 dX10_which_16 xO_97 fl_10_12 fg_10_0 (sh_0 _ _ _) rfl st_0_0 rfl ?_
      refine v_gf_i (n := 22) (kz := 2) xB_97 dX10_which_19 xO_97 fl_10_65 fg_6_2 rfl (sh_1 _ _ _) rfl rfl ?_
      refine v_ic_ge_y (t := 58) xB_97 dX10_which_22 (by decide) rfl (by first | omega | (simp only [sA_same, sA_s, ud_s, Int.reduceEq, if_true, if_false, ite_true, ite_false, ↓reduceIte, and_true, true_and, eq_self, Int.add_zero, Int.reduceAdd]; omega) | (simp (disch := omega) only [sA_same, sA_ne, ud_eq, ud_ne, Int.add_zero, Int.reduceAdd]; omega)) ?_
      refine v_iload_n (n := 59) xB_97 dX10_which_58 rfl rfl ?_
      refine v_ireturn0 xB_97 dX10_which_59 xK_97 ?_
      refine q_eqI (o1 _ hm) ?_
      unfold WI
      rw [if_pos (by omega)]
      exact hmo.symm
    · intro k m' h1 h2 hm ih mo hmo
      show V d 97 (14, ([some (.inr (.inr 0)), some (.inl j), some (.inl mo), some (.inl (k))], ([], (m', (none, (dy, L)))))) Q
      have e12 : m' 1 2 = m 81 0 := by rw [hm.1 1 (by omega)]; exact t2
      have e0 : m' 81 0 = m 81 0 := by rw [hm.1 81 (by omega)]
      have e5 : m' 81 5 = m 81 5 := by rw [hm.1 81 (by omega)]
      have e22 : m' 81 22 = m 81 22 := by rw [hm.1 81 (by omega)]
      obtain ⟨i1, i2, i3, i4, i5, i6⟩ := It hI (t := k) (by omega)
      have f1 : m' (17 + 2 * k) 1 = m 83 k := by rw [hm.1 _ (by omega)]; exact i2
      refine v_iload_n (n := 15) xB_97 dX10_which_14 rfl rfl ?_
      refine v_aload_n (n := 16) xB_97 dX10_which_15 rfl rfl ?_
      refine v_gf_s (n := 19) (kz := 0) xB_97 dX10_which_16 xO_97 fl_10_12 fg_10_0 (sh_0 _ _ _) rfl st_0_0 rfl ?_
      refine v_gf_i (n := 22) (kz := 2) xB_97 dX10_which_19 xO_97 fl_10_65 fg_6_2 rfl (sh_1 _ _ _) rfl rfl ?_
      refine v_ic_ge_n (n := 25) xB_97 dX10_which_22 (by decide) rfl (by first | omega | (simp only [sA_same, sA_s, ud_s, Int.reduceEq, if_true, if_false, ite_true, ite_false, ↓reduceIte, and_true, true_and, eq_self, Int.add_zero, Int.reduceAdd]; omega) | (simp (disch := omega) only [sA_same, sA_ne, ud_eq, ud_ne, Int.add_zero, Int.reduceAdd]; omega)) ?_
      refine v_aload_n (n := 26) xB_97 dX10_which_25 rfl rfl ?_
      refine v_iload_n (n := 27) xB_97 dX10_which_26 rfl rfl ?_
      refine v_aload_n (n := 28) xB_97 dX10_which_27 rfl rfl ?_
      refine v_gf_s (n := 31) (kz := 0) xB_97 dX10_which_28 xO_97 fl_10_12 fg_10_0 (sh_0 _ _ _) rfl st_0_0 rfl ?_
      refine v_gf_s (n := 34) (kz := 1) xB_97 dX10_which_31 xO_97 fl_10_86 fg_6_1 (sh_1 _ _ _) rfl st_1_1 rfl ?_
      refine v_iload_n (n := 35) xB_97 dX10_which_34 rfl rfl ?_
      refine v_aald_s (n := 36) (lz := 5) xB_97 dX10_which_35 (sh_4 _ _ _) (by decide) rfl (by first | omega | (simp only [sA_same, sA_s, ud_s, Int.reduceEq, if_true, if_false, ite_true, ite_false, ↓reduceIte, and_true, true_and, eq_self, Int.add_zero, Int.reduceAdd]; omega) | (simp (disch := omega) only [sA_same, sA_ne, ud_eq, ud_ne, Int.add_zero, Int.reduceAdd]; omega)) (st_T (by omega)) rfl ?_
      refine v_gf_i (n := 39) (kz := 1) xB_97 dX10_which_36 xO_97 fl_10_102 fg_9_1 rfl (sh_T (by first | omega | (simp only [sA_same, sA_s, ud_s, Int.reduceEq, if_true, if_false, ite_true, ite_false, ↓reduceIte, and_true, true_and, eq_self, Int.add_zero, Int.reduceAdd]; omega) | (simp (disch := omega) only [sA_same, sA_ne, ud_eq, ud_ne, Int.add_zero, Int.reduceAdd]; omega)) _ _ _) rfl rfl ?_
      rw [f1]
      refine v_iload_n (n := 40) xB_97 dX10_which_39 rfl rfl ?_
      refine v_call_v (n := 43) xB_97 dX10_which_40 xO_97 iv_10_228 rfl (sh_0 _ _ _) rfl rfl rfl ?_
      refine k_isSeenAfter (by omega) (Inv_K hI hm) (JF_K hJ hm) (by first | omega | (simp only [sA_same, sA_s, ud_s, Int.reduceEq, if_true, if_false, ite_true, ite_false, ↓reduceIte, and_true, true_and, eq_self, Int.add_zero, Int.reduceAdd]; omega) | (simp (disch := omega) only [sA_same, sA_ne, ud_eq, ud_ne, Int.add_zero, Int.reduceAdd]; omega)) (by first | omega | (simp only [sA_same, sA_s, ud_s, Int.reduceEq, if_true, if_false, ite_true, ite_false, ↓reduceIte, and_true, true_and, eq_self, Int.add_zero, Int.reduceAdd]; omega) | (simp (disch := omega) only [sA_same, sA_ne, ud_eq, ud_ne, Int.add_zero, Int.reduceAdd]; omega)) (by first | omega | (simp only [sA_same, sA_s, ud_s, Int.reduceEq, if_true, if_false, ite_true, ite_false, ↓reduceIte, and_true, true_and, eq_self, Int.add_zero, Int.reduceAdd]; omega) | (simp (disch := omega) only [sA_same, sA_ne, ud_eq, ud_ne, Int.add_zero, Int.reduceAdd]; omega)) (fun mA hK gS => ?_) (fun mA hK gS => ?_)
      · refine v_if_eq_n (n := 46) xB_97 dX10_which_43 (by decide) rfl (by decide) ?_
        refine v_iload_n (n := 47) xB_97 dX10_which_46 rfl rfl ?_
        refine v_iconst (n := 48) xB_97 dX10_which_47 ⟨by decide, by decide⟩ rfl ?_
        refine v_iload_n (n := 49) xB_97 dX10_which_48 rfl rfl ?_
        refine v_ishl (n := 50) xB_97 dX10_which_49 rfl ⟨by decide, by omega, by omega, by have := p2_5 (y := k) (by omega); omega⟩ rfl ?_
        refine v_ior (n := 51) xB_97 dX10_which_50 rfl ?_
        refine v_istore_n2 (n := 52) xB_97 dX10_which_51 rfl rfl ?_
        refine v_iinc3 (n := 55) xB_97 dX10_which_52 rfl (by first | omega | (simp only [sA_same, sA_s, ud_s, Int.reduceEq, if_true, if_false, ite_true, ite_false, ↓reduceIte, and_true, true_and, eq_self, Int.add_zero, Int.reduceAdd]; omega) | (simp (disch := omega) only [sA_same, sA_ne, ud_eq, ud_ne, Int.add_zero, Int.reduceAdd]; omega)) rfl ?_
        refine v_goto (t := 14) xB_97 dX10_which_55 (by decide) rfl ?_
        have hm2 := KFr_trans hm hK
        first
        | exact ih _ hm2 _ (by rw [itN_s h1, if_pos (by rw [SB_AE (AE_K hm)] at gS; exact gS), ← hmo, Int.one_mul])
        | exact ih _ hm2 _ (by rw [itN_s h1, if_neg (by rw [SB_AE (AE_K hm)] at gS; rw [gS]; decide), ← hmo])
      · refine v_if_eq_y (t := 52) xB_97 dX10_which_43 (by decide) rfl (by decide) ?_
        refine v_iinc3 (n := 55) xB_97 dX10_which_52 rfl (by first | omega | (simp only [sA_same, sA_s, ud_s, Int.reduceEq, if_true, if_false, ite_true, ite_false, ↓reduceIte, and_true, true_and, eq_self, Int.add_zero, Int.reduceAdd]; omega) | (simp (disch := omega) only [sA_same, sA_ne, ud_eq, ud_ne, Int.add_zero, Int.reduceAdd]; omega)) rfl ?_
        refine v_goto (t := 14) xB_97 dX10_which_55 (by decide) rfl ?_
        have hm2 := KFr_trans hm hK
        first
        | exact ih _ hm2 _ (by rw [itN_s h1, if_pos (by rw [SB_AE (AE_K hm)] at gS; exact gS), ← hmo, Int.one_mul])
        | exact ih _ hm2 _ (by rw [itN_s h1, if_neg (by rw [SB_AE (AE_K hm)] at gS; rw [gS]; decide), ← hmo])
    · exact KFr_refl hI
  · refine v_if_ne_n (n := 8) xB_97 dX10_which_5 (by decide) rfl (by decide) ?_
    refine v_iconst (n := 9) xB_97 dX10_which_8 ⟨by decide, by decide⟩ rfl ?_
    refine v_ireturn0 xB_97 dX10_which_9 xK_97 ?_
    refine q_eqI (o1 _ (KFr_refl hI)) ?_
    unfold WI
    rw [if_neg (by omega)]
set_option maxHeartbeats 1000000 in
theorem k_can {d : Nat} {m0 : PM} {CF : Int → CLs} {t j x : Int} {m : PM} {dy : List (Nat × Nat)} {L : Nat} {Q : Option PV → PS → Prop} (hd : 7 ≤ d) (hI : Inv m0 m dy) (hJ : JF m dy CF) (o1 : ∀ m' : PM, KFr m m' → Q (some (.inl (CA m CF t j x))) (m', (none, (dy, L)))) : C d 98 [.inr (.inr 0), .inl t, .inl j, .inl x] (m, (none, (dy, L))) Q := by
  refine C_go (k := 6) hd xL_98 (fun d hd => ?_)
  show V d 98 (0, ([some (.inr (.inr 0)), some (.inl t), some (.inl j), some (.inl x), none, none, none], ([], (m, (none, (dy, L)))))) Q
  obtain ⟨s1, s2, t1, t2, j1, j2⟩ := If hI
  refine v_aload_n (n := 1) xB_98 dX10_can_0 rfl rfl ?_
  refine v_iload_n (n := 2) xB_98 dX10_can_1 rfl rfl ?_
  refine v_call_v (n := 5) xB_98 dX10_can_2 xO_98 iv_10_96 rfl (sh_0 _ _ _) rfl rfl rfl ?_
  refine k_isTray (by omega) (by first | omega | (simp only [sA_same, sA_s, ud_s, Int.reduceEq, if_true, if_false, ite_true, ite_false, ↓reduceIte, and_true, true_and, eq_self, Int.add_zero, Int.reduceAdd]; omega) | (simp (disch := omega) only [sA_same, sA_ne, ud_eq, ud_ne, Int.add_zero, Int.reduceAdd]; omega)) (fun g1 => ?_) (fun g2 => ?_)
  · refine v_if_eq_n (n := 8) xB_98 dX10_can_5 (by decide) rfl (by decide) ?_
    refine v_aload_n (n := 9) xB_98 dX10_can_8 rfl rfl ?_
    refine v_iload_n (n := 10) xB_98 dX10_can_9 rfl rfl ?_
    refine v_call_v (n := 13) xB_98 dX10_can_10 xO_98 iv_10_162 rfl (sh_0 _ _ _) rfl rfl rfl ?_
    refine k_isJob (by omega) (by first | omega | (simp only [sA_same, sA_s, ud_s, Int.reduceEq, if_true, if_false, ite_true, ite_false, ↓reduceIte, and_true, true_and, eq_self, Int.add_zero, Int.reduceAdd]; omega) | (simp (disch := omega) only [sA_same, sA_ne, ud_eq, ud_ne, Int.add_zero, Int.reduceAdd]; omega)) (fun g3 => ?_) (fun g4 => ?_)
    · refine v_if_eq_n (n := 16) xB_98 dX10_can_13 (by decide) rfl (by decide) ?_
      refine v_iload_n (n := 17) xB_98 dX10_can_16 rfl rfl ?_
      refine v_call_s (n := 20) xB_98 dX10_can_17 xO_98 sp_10_82 (Or.inl rfl) iv_10_82 rfl rfl rfl rfl ?_
      refine k_isEither (by omega)  (fun g5 => ?_) (fun g6 => ?_)
      · refine v_if_ne_y (t := 25) xB_98 dX10_can_20 (by decide) rfl (by decide) ?_
        refine v_iconst (n := 26) xB_98 dX10_can_25 ⟨by decide, by decide⟩ rfl ?_
        refine v_istore4 (n := 28) xB_98 dX10_can_26 rfl rfl ?_
        refine v_bipush (n := 30) xB_98 dX10_can_28 ⟨by decide, by decide⟩ rfl ?_
        refine v_istore5 (n := 32) xB_98 dX10_can_30 rfl rfl ?_
        refine v_bipush (n := 34) xB_98 dX10_can_32 ⟨by decide, by decide⟩ rfl ?_
        refine v_istore6 (n := 36) xB_98 dX10_can_34 rfl rfl ?_
        refine lp_dn (F := fun (k : Int) (m' : PM) => ∀ mo : Int, mo = (itN (CS m CF t j) (9 - (k)).toNat (0, -5)).1 ∧ 0 ≤ mo ∧ mo ≤ 9 - k → ∀ fi : Int, fi = (itN (CS m CF t j) (9 - (k)).toNat (0, -5)).2 → V d 98 (36, ([some (.inr (.inr 0)), some (.inl t), some (.inl j), some (.inl x), some (.inl mo), some (.inl fi), some (.inl (k))], ([], (m', (none, (dy, L)))))) Q) (E := fun (k : Int) (m' : PM) => KFr m (m')) (a := -1) (b := 9) ?_ ?_ (9) (_) (by first | omega | (simp only [sA_same, sA_s, ud_s, Int.reduceEq, if_true, if_false, ite_true, ite_false, ↓reduceIte, and_true, true_and, eq_self, Int.add_zero, Int.reduceAdd]; omega) | (simp (disch := omega) only [sA_same, sA_ne, ud_eq, ud_ne, Int.add_zero, Int.reduceAdd]; omega)) (by first | omega | (simp only [sA_same, sA_s, ud_s, Int.reduceEq, if_true, if_false, ite_true, ite_false, ↓reduceIte, and_true, true_and, eq_self, Int.add_zero, Int.reduceAdd]; omega) | (simp (disch := omega) only [sA_same, sA_ne, ud_eq, ud_ne, Int.add_zero, Int.reduceAdd]; omega)) ?_ _ ⟨rfl, Int.le_refl 0, Int.le_refl 0⟩ _ rfl
        · intro m' hm mo hmo fi hfi
          show V d 98 (36, ([some (.inr (.inr 0)), some (.inl t), some (.inl j), some (.inl x), some (.inl mo), some (.inl fi), some (.inl (-1))], ([], (m', (none, (dy, L)))))) Q
          have e12 : m' 1 2 = m 81 0 := by rw [hm.1 1 (by omega)]; exact t2
          have e0 : m' 81 0 = m 81 0 := by rw [hm.1 81 (by omega)]
          have e5 : m' 81 5 = m 81 5 := by rw [hm.1 81 (by omega)]
          have e22 : m' 81 22 = m 81 22 := by rw [hm.1 81 (by omega)]
          refine v_iload (n := 38) xB_98 dX10_can_36 rfl rfl ?_
          refine v_if_lt_y (t := 65) xB_98 dX10_can_38 (by decide) rfl (by first | omega | (simp only [sA_same, sA_s, ud_s, Int.reduceEq, if_true, if_false, ite_true, ite_false, ↓reduceIte, and_true, true_and, eq_self, Int.add_zero, Int.reduceAdd]; omega) | (simp (disch := omega) only [sA_same, sA_ne, ud_eq, ud_ne, Int.add_zero, Int.reduceAdd]; omega)) ?_
          refine v_iload_n (n := 66) xB_98 dX10_can_65 rfl rfl ?_
          refine v_if_ne (t := 74) (n := 69) xB_98 dX10_can_66 (by decide) rfl rfl (fun g1 => ?_) (fun g1 => ?_)
          · refine v_iload (n := 76) xB_98 dX10_can_74 rfl rfl ?_
            refine v_ireturn0 xB_98 dX10_can_76 xK_98 ?_
            refine q_eqI (o1 _ hm) ?_
            unfold CA
            rw [if_pos (by omega)]
            first | (rw [if_pos (by omega)]; exact hmo.1.symm) | (rw [if_neg (by omega)]; exact hfi.symm)
          · refine v_iload (n := 71) xB_98 dX10_can_69 rfl rfl ?_
            refine v_goto (t := 76) xB_98 dX10_can_71 (by decide) rfl ?_
            refine v_ireturn0 xB_98 dX10_can_76 xK_98 ?_
            refine q_eqI (o1 _ hm) ?_
            unfold CA
            rw [if_pos (by omega)]
            first | (rw [if_pos (by omega)]; exact hmo.1.symm) | (rw [if_neg (by omega)]; exact hfi.symm)
        · intro k m' h1 h2 hm ih mo hmo fi hfi
          show V d 98 (36, ([some (.inr (.inr 0)), some (.inl t), some (.inl j), some (.inl x), some (.inl mo), some (.inl fi), some (.inl (k))], ([], (m', (none, (dy, L)))))) Q
          have e12 : m' 1 2 = m 81 0 := by rw [hm.1 1 (by omega)]; exact t2
          have e0 : m' 81 0 = m 81 0 := by rw [hm.1 81 (by omega)]
          have e5 : m' 81 5 = m 81 5 := by rw [hm.1 81 (by omega)]
          have e22 : m' 81 22 = m 81 22 := by rw [hm.1 81 (by omega)]
          refine v_iload (n := 38) xB_98 dX10_can_36 rfl rfl ?_
          refine v_if_lt_n (n := 41) xB_98 dX10_can_38 (by decide) rfl (by first | omega | (simp only [sA_same, sA_s, ud_s, Int.reduceEq, if_true, if_false, ite_true, ite_false, ↓reduceIte, and_true, true_and, eq_self, Int.add_zero, Int.reduceAdd]; omega) | (simp (disch := omega) only [sA_same, sA_ne, ud_eq, ud_ne, Int.add_zero, Int.reduceAdd]; omega)) ?_
          refine v_aload_n (n := 42) xB_98 dX10_can_41 rfl rfl ?_
          refine v_iload_n (n := 43) xB_98 dX10_can_42 rfl rfl ?_
          refine v_iload (n := 45) xB_98 dX10_can_43 rfl rfl ?_
          refine v_iload_n (n := 46) xB_98 dX10_can_45 rfl rfl ?_
          refine v_call_v (n := 49) xB_98 dX10_can_46 xO_98 iv_10_228 rfl (sh_0 _ _ _) rfl rfl rfl ?_
          refine k_isSeenAfter (by omega) (Inv_K hI hm) (JF_K hJ hm) (by first | omega | (simp only [sA_same, sA_s, ud_s, Int.reduceEq, if_true, if_false, ite_true, ite_false, ↓reduceIte, and_true, true_and, eq_self, Int.add_zero, Int.reduceAdd]; omega) | (simp (disch := omega) only [sA_same, sA_ne, ud_eq, ud_ne, Int.add_zero, Int.reduceAdd]; omega)) (by first | omega | (simp only [sA_same, sA_s, ud_s, Int.reduceEq, if_true, if_false, ite_true, ite_false, ↓reduceIte, and_true, true_and, eq_self, Int.add_zero, Int.reduceAdd]; omega) | (simp (disch := omega) only [sA_same, sA_ne, ud_eq, ud_ne, Int.add_zero, Int.reduceAdd]; omega)) (by first | omega | (simp only [sA_same, sA_s, ud_s, Int.reduceEq, if_true, if_false, ite_true, ite_false, ↓reduceIte, and_true, true_and, eq_self, Int.add_zero, Int.reduceAdd]; omega) | (simp (disch := omega) only [sA_same, sA_ne, ud_eq, ud_ne, Int.add_zero, Int.reduceAdd]; omega)) (fun mA hK gS => ?_) (fun mA hK gS => ?_)
          · refine v_if_eq_n (n := 52) xB_98 dX10_can_49 (by decide) rfl (by decide) ?_
            refine v_iinc4 (n := 55) xB_98 dX10_can_52 rfl (by first | omega | (simp only [sA_same, sA_s, ud_s, Int.reduceEq, if_true, if_false, ite_true, ite_false, ↓reduceIte, and_true, true_and, eq_self, Int.add_zero, Int.reduceAdd]; omega) | (simp (disch := omega) only [sA_same, sA_ne, ud_eq, ud_ne, Int.add_zero, Int.reduceAdd]; omega)) rfl ?_
            refine v_iload (n := 57) xB_98 dX10_can_55 rfl rfl ?_
            refine v_istore5 (n := 59) xB_98 dX10_can_57 rfl rfl ?_
            refine v_iinc6 (n := 62) xB_98 dX10_can_59 rfl (by first | omega | (simp only [sA_same, sA_s, ud_s, Int.reduceEq, if_true, if_false, ite_true, ite_false, ↓reduceIte, and_true, true_and, eq_self, Int.add_zero, Int.reduceAdd]; omega) | (simp (disch := omega) only [sA_same, sA_ne, ud_eq, ud_ne, Int.add_zero, Int.reduceAdd]; omega)) rfl ?_
            refine v_goto (t := 36) xB_98 dX10_can_62 (by decide) rfl ?_
            have hm2 := KFr_trans hm hK
            rw [SB_AE (AE_K hm)] at gS
            first
            | exact ih _ hm2 _ ⟨by rw [CS_s h2, CS_y gS h2, ← hmo.1], by omega⟩ _ (by rw [CS_s h2, CS_y gS h2])
            | exact ih _ hm2 _ ⟨by rw [CS_s h2, CS_n gS h2, ← hmo.1], by omega⟩ _ (by rw [CS_s h2, CS_n gS h2, ← hfi])
          · refine v_if_eq_y (t := 59) xB_98 dX10_can_49 (by decide) rfl (by decide) ?_
            refine v_iinc6 (n := 62) xB_98 dX10_can_59 rfl (by first | omega | (simp only [sA_same, sA_s, ud_s, Int.reduceEq, if_true, if_false, ite_true, ite_false, ↓reduceIte, and_true, true_and, eq_self, Int.add_zero, Int.reduceAdd]; omega) | (simp (disch := omega) only [sA_same, sA_ne, ud_eq, ud_ne, Int.add_zero, Int.reduceAdd]; omega)) rfl ?_
            refine v_goto (t := 36) xB_98 dX10_can_62 (by decide) rfl ?_
            have hm2 := KFr_trans hm hK
            rw [SB_AE (AE_K hm)] at gS
            first
            | exact ih _ hm2 _ ⟨by rw [CS_s h2, CS_y gS h2, ← hmo.1], by omega⟩ _ (by rw [CS_s h2, CS_y gS h2])
            | exact ih _ hm2 _ ⟨by rw [CS_s h2, CS_n gS h2, ← hmo.1], by omega⟩ _ (by rw [CS_s h2, CS_n gS h2, ← hfi])
        · exact KFr_refl hI
      · refine v_if_ne_n (n := 23) xB_98 dX10_can_20 (by decide) rfl (by decide) ?_
        refine v_iconst (n := 24) xB_98 dX10_can_23 ⟨by decide, by decide⟩ rfl ?_
        refine v_ireturn0 xB_98 dX10_can_24 xK_98 ?_
        refine q_eqI (o1 _ (KFr_refl hI)) ?_
        unfold CA
        rw [if_neg (by omega)]
    · refine v_if_eq_y (t := 23) xB_98 dX10_can_13 (by decide) rfl (by decide) ?_
      refine v_iconst (n := 24) xB_98 dX10_can_23 ⟨by decide, by decide⟩ rfl ?_
      refine v_ireturn0 xB_98 dX10_can_24 xK_98 ?_
      refine q_eqI (o1 _ (KFr_refl hI)) ?_
      unfold CA
      rw [if_neg (by omega)]
  · refine v_if_eq_y (t := 23) xB_98 dX10_can_5 (by decide) rfl (by decide) ?_
    refine v_iconst (n := 24) xB_98 dX10_can_23 ⟨by decide, by decide⟩ rfl ?_
    refine v_ireturn0 xB_98 dX10_can_24 xK_98 ?_
    refine q_eqI (o1 _ (KFr_refl hI)) ?_
    unfold CA
    rw [if_neg (by omega)]
