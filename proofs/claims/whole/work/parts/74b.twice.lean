/-! Twice: the class. -/
theorem itN_0 {α : Type} (h : Int → α → α) (s : α) : itN h (0 : Int).toNat s = s := rfl
def TW (m : PM) (CF : Int → CLs) (j o : Int) : Int × Int := itN (fun t s => itN (fun w s => itN (fun u s => upS (R2 m CF w u o (RA m CF t (m 83 t) j)) (100 * t + 10 * w + u) s) (m 81 0).toNat s) 4 s) (m 81 0).toNat (-1, -5)
def T2 (m : PM) (CF : Int → CLs) (j o x : Int) : Int := if (0 ≤ j ∧ j < m 81 5) ∧ (0 ≤ o ∧ o < m 81 5) ∧ 0 ≤ x ∧ x ≤ 1 then (if x = 0 then (TW m CF j o).2 else if (TW m CF j o).1 < 0 then 0 else (TW m CF j o).1) else -1
theorem TW_AE {m m' : PM} (h : AE m m') (CF : Int → CLs) : TW m' CF = TW m CF := by
  funext j o; unfold TW; rw [R2_AE h, RA_AE h, h.2.2.1, h.2.2.2.2.2.1]
theorem T2_AE {m m' : PM} (h : AE m m') (CF : Int → CLs) : T2 m' CF = T2 m CF := by
  funext j o x; unfold T2; rw [TW_AE h, h.2.2.2.1]
set_option maxHeartbeats 2000000 in
theorem vk_tw3 {d : Nat} {m0 : PM} {CF : Int → CLs} {j o x : Int} {m : PM} {dy : List (Nat × Nat)} {L : Nat} {Q : Option PV → PS → Prop} (hd : 6 ≤ d) {t w : Int} (ht : 0 ≤ t ∧ t < m 81 0) (hw : 0 ≤ w ∧ w < 4) (hI : Inv m0 m dy) (hJ : JF m dy CF) (hj : 0 ≤ j ∧ j < m 81 5) (ho : 0 ≤ o ∧ o < m 81 5) (hx : 0 ≤ x ∧ x ≤ 1) {mo fi : Int} {m1 : PM} (hm0 : KFr m (m1) ∧ (m1) 62 1 = m 81 22 ∧ (∀ s, 0 ≤ s → s < m 81 22 → (m1) 63 s = (RA m CF (t) (m 83 (t)) j) s)) (hmo0 : mo = (itN (fun w s => itN (fun u s => upS (R2 m CF (w) u o (RA m CF (t) (m 83 (t)) j)) (100 * (t) + 10 * (w) + u) s) (m 81 0).toNat s) (w).toNat (itN (fun t s => itN (fun w s => itN (fun u s => upS (R2 m CF (w) u o (RA m CF (t) (m 83 (t)) j)) (100 * (t) + 10 * (w) + u) s) (m 81 0).toNat s) 4 s) (t).toNat (-1, -5))).1) (hfi0 : fi = (itN (fun w s => itN (fun u s => upS (R2 m CF (w) u o (RA m CF (t) (m 83 (t)) j)) (100 * (t) + 10 * (w) + u) s) (m 81 0).toNat s) (w).toNat (itN (fun t s => itN (fun w s => itN (fun u s => upS (R2 m CF (w) u o (RA m CF (t) (m 83 (t)) j)) (100 * (t) + 10 * (w) + u) s) (m 81 0).toNat s) 4 s) (t).toNat (-1, -5))).2) (x9 : Option PV) (go : ∀ (m' : PM) (mo fi : Int) (x8 x9 : Option PV), (KFr m (m') ∧ (m') 62 1 = m 81 22 ∧ (∀ s, 0 ≤ s → s < m 81 22 → (m') 63 s = (RA m CF (t) (m 83 (t)) j) s)) → mo = (itN (fun w s => itN (fun u s => upS (R2 m CF (w) u o (RA m CF (t) (m 83 (t)) j)) (100 * (t) + 10 * (w) + u) s) (m 81 0).toNat s) (w + 1).toNat (itN (fun t s => itN (fun w s => itN (fun u s => upS (R2 m CF (w) u o (RA m CF (t) (m 83 (t)) j)) (100 * (t) + 10 * (w) + u) s) (m 81 0).toNat s) 4 s) (t).toNat (-1, -5))).1 → fi = (itN (fun w s => itN (fun u s => upS (R2 m CF (w) u o (RA m CF (t) (m 83 (t)) j)) (100 * (t) + 10 * (w) + u) s) (m 81 0).toNat s) (w + 1).toNat (itN (fun t s => itN (fun w s => itN (fun u s => upS (R2 m CF (w) u o (RA m CF (t) (m 83 (t)) j)) (100 * (t) + 10 * (w) + u) s) (m 81 0).toNat s) 4 s) (t).toNat (-1, -5))).2 → V d 92 (135, ([some (.inr (.inr 0)), some (.inl j), some (.inl o), some (.inl x), some (.inl mo), some (.inl fi), some (.inl t), some (.inl w), x8, x9], ([], (m', (none, (dy, L)))))) Q) : V d 92 (79, ([some (.inr (.inr 0)), some (.inl j), some (.inl o), some (.inl x), some (.inl mo), some (.inl fi), some (.inl (t)), some (.inl (w)), some (.inl (0)), x9], ([], (m1, (none, (dy, L)))))) Q := by
  obtain ⟨s1, s2, t1, t2, j1, j2⟩ := If hI
  refine lp_up (F := fun (k : Int) (m' : PM) => ∀ x9 : Option PV, ∀ mo : Int, mo = (itN (fun u s => upS (R2 m CF (w) u o (RA m CF (t) (m 83 (t)) j)) (100 * (t) + 10 * (w) + u) s) (k).toNat (itN (fun w s => itN (fun u s => upS (R2 m CF (w) u o (RA m CF (t) (m 83 (t)) j)) (100 * (t) + 10 * (w) + u) s) (m 81 0).toNat s) (w).toNat (itN (fun t s => itN (fun w s => itN (fun u s => upS (R2 m CF (w) u o (RA m CF (t) (m 83 (t)) j)) (100 * (t) + 10 * (w) + u) s) (m 81 0).toNat s) 4 s) (t).toNat (-1, -5)))).1 → ∀ fi : Int, fi = (itN (fun u s => upS (R2 m CF (w) u o (RA m CF (t) (m 83 (t)) j)) (100 * (t) + 10 * (w) + u) s) (k).toNat (itN (fun w s => itN (fun u s => upS (R2 m CF (w) u o (RA m CF (t) (m 83 (t)) j)) (100 * (t) + 10 * (w) + u) s) (m 81 0).toNat s) (w).toNat (itN (fun t s => itN (fun w s => itN (fun u s => upS (R2 m CF (w) u o (RA m CF (t) (m 83 (t)) j)) (100 * (t) + 10 * (w) + u) s) (m 81 0).toNat s) 4 s) (t).toNat (-1, -5)))).2 → V d 92 (79, ([some (.inr (.inr 0)), some (.inl j), some (.inl o), some (.inl x), some (.inl mo), some (.inl fi), some (.inl (t)), some (.inl (w)), some (.inl (k)), x9], ([], (m', (none, (dy, L)))))) Q) (E := fun (k : Int) (m' : PM) => KFr m (m') ∧ (m') 62 1 = m 81 22 ∧ (∀ s, 0 ≤ s → s < m 81 22 → (m') 63 s = (RA m CF (t) (m 83 (t)) j) s)) (a := 0) (b := m 81 0) ?_ ?_ (0) (m1) (by first | omega | (simp only [sA_same, sA_s, ud_s, Int.reduceEq, if_true, if_false, ite_true, ite_false, ↓reduceIte, and_true, true_and, eq_self, Int.add_zero, Int.reduceAdd]; omega) | (simp (disch := omega) only [sA_same, sA_ne, ud_eq, ud_ne, Int.add_zero, Int.reduceAdd]; omega)) (by first | omega | (simp only [sA_same, sA_s, ud_s, Int.reduceEq, if_true, if_false, ite_true, ite_false, ↓reduceIte, and_true, true_and, eq_self, Int.add_zero, Int.reduceAdd]; omega) | (simp (disch := omega) only [sA_same, sA_ne, ud_eq, ud_ne, Int.add_zero, Int.reduceAdd]; omega)) ?_ _ _ (by rw [itN_0]; exact hmo0) _ (by rw [itN_0]; exact hfi0)
  · intro m' hm x9 mo hmo fi hfi
    show V d 92 (79, ([some (.inr (.inr 0)), some (.inl j), some (.inl o), some (.inl x), some (.inl mo), some (.inl fi), some (.inl (t)), some (.inl (w)), some (.inl (m 81 0)), x9], ([], (m', (none, (dy, L)))))) Q
    have e12 : m' 1 2 = m 81 0 := by rw [hm.1.1 1 (by omega)]; exact t2
    have e0 : m' 81 0 = m 81 0 := by rw [hm.1.1 81 (by omega)]
    have e5 : m' 81 5 = m 81 5 := by rw [hm.1.1 81 (by omega)]
    have e22 : m' 81 22 = m 81 22 := by rw [hm.1.1 81 (by omega)]
    refine v_iload (n := 81) xB_92 dX10_twice_79 rfl rfl ?_
    refine v_aload_n (n := 82) xB_92 dX10_twice_81 rfl rfl ?_
    refine v_gf_s (n := 85) (kz := 0) xB_92 dX10_twice_82 xO_92 fl_10_12 fg_10_0 (sh_0 _ _ _) rfl st_0_0 rfl ?_
    refine v_gf_i (n := 88) (kz := 2) xB_92 dX10_twice_85 xO_92 fl_10_65 fg_6_2 rfl (sh_1 _ _ _) rfl rfl ?_
    refine v_ic_ge_y (t := 135) xB_92 dX10_twice_88 (by decide) rfl (by first | omega | (simp only [sA_same, sA_s, ud_s, Int.reduceEq, if_true, if_false, ite_true, ite_false, ↓reduceIte, and_true, true_and, eq_self, Int.add_zero, Int.reduceAdd]; omega) | (simp (disch := omega) only [sA_same, sA_ne, ud_eq, ud_ne, Int.add_zero, Int.reduceAdd]; omega)) ?_
    exact go m' mo fi _ _ hm (by rw [itN_s hw.1]; exact hmo) (by rw [itN_s hw.1]; exact hfi)
  · intro k m' h1 h2 hm ih x9 mo hmo fi hfi
    show V d 92 (79, ([some (.inr (.inr 0)), some (.inl j), some (.inl o), some (.inl x), some (.inl mo), some (.inl fi), some (.inl (t)), some (.inl (w)), some (.inl (k)), x9], ([], (m', (none, (dy, L)))))) Q
    have e12 : m' 1 2 = m 81 0 := by rw [hm.1.1 1 (by omega)]; exact t2
    have e0 : m' 81 0 = m 81 0 := by rw [hm.1.1 81 (by omega)]
    have e5 : m' 81 5 = m 81 5 := by rw [hm.1.1 81 (by omega)]
    have e22 : m' 81 22 = m 81 22 := by rw [hm.1.1 81 (by omega)]
    refine v_iload (n := 81) xB_92 dX10_twice_79 rfl rfl ?_
    refine v_aload_n (n := 82) xB_92 dX10_twice_81 rfl rfl ?_
    refine v_gf_s (n := 85) (kz := 0) xB_92 dX10_twice_82 xO_92 fl_10_12 fg_10_0 (sh_0 _ _ _) rfl st_0_0 rfl ?_
    refine v_gf_i (n := 88) (kz := 2) xB_92 dX10_twice_85 xO_92 fl_10_65 fg_6_2 rfl (sh_1 _ _ _) rfl rfl ?_
    refine v_ic_ge_n (n := 91) xB_92 dX10_twice_88 (by decide) rfl (by first | omega | (simp only [sA_same, sA_s, ud_s, Int.reduceEq, if_true, if_false, ite_true, ite_false, ↓reduceIte, and_true, true_and, eq_self, Int.add_zero, Int.reduceAdd]; omega) | (simp (disch := omega) only [sA_same, sA_ne, ud_eq, ud_ne, Int.add_zero, Int.reduceAdd]; omega)) ?_
    refine v_aload_n (n := 92) xB_92 dX10_twice_91 rfl rfl ?_
    refine v_iload (n := 94) xB_92 dX10_twice_92 rfl rfl ?_
    refine v_iload (n := 96) xB_92 dX10_twice_94 rfl rfl ?_
    refine v_iload_n (n := 97) xB_92 dX10_twice_96 rfl rfl ?_
    refine v_call_v (n := 100) xB_92 dX10_twice_97 xO_92 iv_10_192 rfl (sh_0 _ _ _) rfl rfl rfl ?_
    refine k_rightsBehind (by omega) (Inv_K hI hm.1) (JF_K hJ hm.1) (by first | omega | (simp only [sA_same, sA_s, ud_s, Int.reduceEq, if_true, if_false, ite_true, ite_false, ↓reduceIte, and_true, true_and, eq_self, Int.add_zero, Int.reduceAdd]; omega) | (simp (disch := omega) only [sA_same, sA_ne, ud_eq, ud_ne, Int.add_zero, Int.reduceAdd]; omega)) (by first | omega | (simp only [sA_same, sA_s, ud_s, Int.reduceEq, if_true, if_false, ite_true, ite_false, ↓reduceIte, and_true, true_and, eq_self, Int.add_zero, Int.reduceAdd]; omega) | (simp (disch := omega) only [sA_same, sA_ne, ud_eq, ud_ne, Int.add_zero, Int.reduceAdd]; omega)) (by first | omega | (simp only [sA_same, sA_s, ud_s, Int.reduceEq, if_true, if_false, ite_true, ite_false, ↓reduceIte, and_true, true_and, eq_self, Int.add_zero, Int.reduceAdd]; omega) | (simp (disch := omega) only [sA_same, sA_ne, ud_eq, ud_ne, Int.add_zero, Int.reduceAdd]; omega)) (by rw [e22]; exact hm.2.1) (fun s a b => hm.2.2 s a (by rw [← e22]; exact b)) (fun mA hK g62 g63 => ?_)
    have hm2 : KFr m (mA) ∧ (mA) 62 1 = m 81 22 ∧ (∀ s, 0 ≤ s → s < m 81 22 → (mA) 63 s = (RA m CF (t) (m 83 (t)) j) s) := ⟨KFr_trans hm.1 hK, by rw [g62]; exact hm.2.1, by rw [g63]; exact hm.2.2⟩
    rw [R2_AE (AE_K hm.1)]
    refine v_istore9 (n := 102) xB_92 dX10_twice_100 rfl rfl ?_
    refine v_iload (n := 104) xB_92 dX10_twice_102 rfl rfl ?_
    refine v_iload (n := 106) xB_92 dX10_twice_104 rfl rfl ?_
    refine v_ic_le (t := 129) (n := 109) xB_92 dX10_twice_106 (by decide) rfl rfl (fun g1 => ?_) (fun g1 => ?_)
    · refine v_iinc8 (n := 132) xB_92 dX10_twice_129 rfl (by first | omega | (simp only [sA_same, sA_s, ud_s, Int.reduceEq, if_true, if_false, ite_true, ite_false, ↓reduceIte, and_true, true_and, eq_self, Int.add_zero, Int.reduceAdd]; omega) | (simp (disch := omega) only [sA_same, sA_ne, ud_eq, ud_ne, Int.add_zero, Int.reduceAdd]; omega)) rfl ?_
      refine v_goto (t := 79) xB_92 dX10_twice_132 (by decide) rfl ?_
      first
      | exact ih _ hm2 _ _ (by rw [itN_s h1, upS_n (by (try dsimp only); rw [← hmo]; omega)]; exact hmo) _ (by rw [itN_s h1, upS_n (by (try dsimp only); rw [← hmo]; omega)]; exact hfi)
      | exact ih _ hm2 _ _ (by rw [itN_s h1, upS_y (by (try dsimp only); rw [← hmo]; omega)]) _ (by rw [itN_s h1, upS_y (by (try dsimp only); rw [← hmo]; omega)])
    · refine v_iload (n := 111) xB_92 dX10_twice_109 rfl rfl ?_
      refine v_istore4 (n := 113) xB_92 dX10_twice_111 rfl rfl ?_
      refine v_bipush (n := 115) xB_92 dX10_twice_113 ⟨by decide, by decide⟩ rfl ?_
      refine v_iload (n := 117) xB_92 dX10_twice_115 rfl rfl ?_
      refine v_imul (n := 118) xB_92 dX10_twice_117 (by first | omega | (simp only [sA_same, sA_s, ud_s, Int.reduceEq, if_true, if_false, ite_true, ite_false, ↓reduceIte, and_true, true_and, eq_self, Int.add_zero, Int.reduceAdd]; omega) | (simp (disch := omega) only [sA_same, sA_ne, ud_eq, ud_ne, Int.add_zero, Int.reduceAdd]; omega)) rfl ?_
      refine v_bipush (n := 120) xB_92 dX10_twice_118 ⟨by decide, by decide⟩ rfl ?_
      refine v_iload (n := 122) xB_92 dX10_twice_120 rfl rfl ?_
      refine v_imul (n := 123) xB_92 dX10_twice_122 (by first | omega | (simp only [sA_same, sA_s, ud_s, Int.reduceEq, if_true, if_false, ite_true, ite_false, ↓reduceIte, and_true, true_and, eq_self, Int.add_zero, Int.reduceAdd]; omega) | (simp (disch := omega) only [sA_same, sA_ne, ud_eq, ud_ne, Int.add_zero, Int.reduceAdd]; omega)) rfl ?_
      refine v_iadd (n := 124) xB_92 dX10_twice_123 (by first | omega | (simp only [sA_same, sA_s, ud_s, Int.reduceEq, if_true, if_false, ite_true, ite_false, ↓reduceIte, and_true, true_and, eq_self, Int.add_zero, Int.reduceAdd]; omega) | (simp (disch := omega) only [sA_same, sA_ne, ud_eq, ud_ne, Int.add_zero, Int.reduceAdd]; omega)) rfl ?_
      refine v_iload (n := 126) xB_92 dX10_twice_124 rfl rfl ?_
      refine v_iadd (n := 127) xB_92 dX10_twice_126 (by first | omega | (simp only [sA_same, sA_s, ud_s, Int.reduceEq, if_true, if_false, ite_true, ite_false, ↓reduceIte, and_true, true_and, eq_self, Int.add_zero, Int.reduceAdd]; omega) | (simp (disch := omega) only [sA_same, sA_ne, ud_eq, ud_ne, Int.add_zero, Int.reduceAdd]; omega)) rfl ?_
      refine v_istore5 (n := 129) xB_92 dX10_twice_127 rfl rfl ?_
      refine v_iinc8 (n := 132) xB_92 dX10_twice_129 rfl (by first | omega | (simp only [sA_same, sA_s, ud_s, Int.reduceEq, if_true, if_false, ite_true, ite_false, ↓reduceIte, and_true, true_and, eq_self, Int.add_zero, Int.reduceAdd]; omega) | (simp (disch := omega) only [sA_same, sA_ne, ud_eq, ud_ne, Int.add_zero, Int.reduceAdd]; omega)) rfl ?_
      refine v_goto (t := 79) xB_92 dX10_twice_132 (by decide) rfl ?_
      first
      | exact ih _ hm2 _ _ (by rw [itN_s h1, upS_n (by (try dsimp only); rw [← hmo]; omega)]; exact hmo) _ (by rw [itN_s h1, upS_n (by (try dsimp only); rw [← hmo]; omega)]; exact hfi)
      | exact ih _ hm2 _ _ (by rw [itN_s h1, upS_y (by (try dsimp only); rw [← hmo]; omega)]) _ (by rw [itN_s h1, upS_y (by (try dsimp only); rw [← hmo]; omega)])
  · exact hm0
set_option maxHeartbeats 2000000 in
theorem vk_tw2 {d : Nat} {m0 : PM} {CF : Int → CLs} {j o x : Int} {m : PM} {dy : List (Nat × Nat)} {L : Nat} {Q : Option PV → PS → Prop} (hd : 6 ≤ d) {t : Int} (ht : 0 ≤ t ∧ t < m 81 0) (hI : Inv m0 m dy) (hJ : JF m dy CF) (hj : 0 ≤ j ∧ j < m 81 5) (ho : 0 ≤ o ∧ o < m 81 5) (hx : 0 ≤ x ∧ x ≤ 1) {mo fi : Int} {m1 : PM} (hm0 : KFr m (m1) ∧ (m1) 62 1 = m 81 22 ∧ (∀ s, 0 ≤ s → s < m 81 22 → (m1) 63 s = (RA m CF (t) (m 83 (t)) j) s)) (hmo0 : mo = (itN (fun t s => itN (fun w s => itN (fun u s => upS (R2 m CF (w) u o (RA m CF (t) (m 83 (t)) j)) (100 * (t) + 10 * (w) + u) s) (m 81 0).toNat s) 4 s) (t).toNat (-1, -5)).1) (hfi0 : fi = (itN (fun t s => itN (fun w s => itN (fun u s => upS (R2 m CF (w) u o (RA m CF (t) (m 83 (t)) j)) (100 * (t) + 10 * (w) + u) s) (m 81 0).toNat s) 4 s) (t).toNat (-1, -5)).2) (x8 x9 : Option PV) (go : ∀ (m' : PM) (mo fi : Int) (x8 x9 : Option PV), KFr m m' → mo = (itN (fun t s => itN (fun w s => itN (fun u s => upS (R2 m CF (w) u o (RA m CF (t) (m 83 (t)) j)) (100 * (t) + 10 * (w) + u) s) (m 81 0).toNat s) 4 s) (t + 1).toNat (-1, -5)).1 → fi = (itN (fun t s => itN (fun w s => itN (fun u s => upS (R2 m CF (w) u o (RA m CF (t) (m 83 (t)) j)) (100 * (t) + 10 * (w) + u) s) (m 81 0).toNat s) 4 s) (t + 1).toNat (-1, -5)).2 → V d 92 (141, ([some (.inr (.inr 0)), some (.inl j), some (.inl o), some (.inl x), some (.inl mo), some (.inl fi), some (.inl t), some (.inl 4), x8, x9], ([], (m', (none, (dy, L)))))) Q) : V d 92 (70, ([some (.inr (.inr 0)), some (.inl j), some (.inl o), some (.inl x), some (.inl mo), some (.inl fi), some (.inl (t)), some (.inl (0)), x8, x9], ([], (m1, (none, (dy, L)))))) Q := by
  obtain ⟨s1, s2, t1, t2, j1, j2⟩ := If hI
  refine lp_up (F := fun (k : Int) (m' : PM) => ∀ x8 x9 : Option PV, ∀ mo : Int, mo = (itN (fun w s => itN (fun u s => upS (R2 m CF (w) u o (RA m CF (t) (m 83 (t)) j)) (100 * (t) + 10 * (w) + u) s) (m 81 0).toNat s) (k).toNat (itN (fun t s => itN (fun w s => itN (fun u s => upS (R2 m CF (w) u o (RA m CF (t) (m 83 (t)) j)) (100 * (t) + 10 * (w) + u) s) (m 81 0).toNat s) 4 s) (t).toNat (-1, -5))).1 → ∀ fi : Int, fi = (itN (fun w s => itN (fun u s => upS (R2 m CF (w) u o (RA m CF (t) (m 83 (t)) j)) (100 * (t) + 10 * (w) + u) s) (m 81 0).toNat s) (k).toNat (itN (fun t s => itN (fun w s => itN (fun u s => upS (R2 m CF (w) u o (RA m CF (t) (m 83 (t)) j)) (100 * (t) + 10 * (w) + u) s) (m 81 0).toNat s) 4 s) (t).toNat (-1, -5))).2 → V d 92 (70, ([some (.inr (.inr 0)), some (.inl j), some (.inl o), some (.inl x), some (.inl mo), some (.inl fi), some (.inl (t)), some (.inl (k)), x8, x9], ([], (m', (none, (dy, L)))))) Q) (E := fun (k : Int) (m' : PM) => KFr m (m') ∧ (m') 62 1 = m 81 22 ∧ (∀ s, 0 ≤ s → s < m 81 22 → (m') 63 s = (RA m CF (t) (m 83 (t)) j) s)) (a := 0) (b := 4) ?_ ?_ (0) (m1) (by first | omega | (simp only [sA_same, sA_s, ud_s, Int.reduceEq, if_true, if_false, ite_true, ite_false, ↓reduceIte, and_true, true_and, eq_self, Int.add_zero, Int.reduceAdd]; omega) | (simp (disch := omega) only [sA_same, sA_ne, ud_eq, ud_ne, Int.add_zero, Int.reduceAdd]; omega)) (by first | omega | (simp only [sA_same, sA_s, ud_s, Int.reduceEq, if_true, if_false, ite_true, ite_false, ↓reduceIte, and_true, true_and, eq_self, Int.add_zero, Int.reduceAdd]; omega) | (simp (disch := omega) only [sA_same, sA_ne, ud_eq, ud_ne, Int.add_zero, Int.reduceAdd]; omega)) ?_ _ _ _ (by rw [itN_0]; exact hmo0) _ (by rw [itN_0]; exact hfi0)
  · intro m' hm x8 x9 mo hmo fi hfi
    show V d 92 (70, ([some (.inr (.inr 0)), some (.inl j), some (.inl o), some (.inl x), some (.inl mo), some (.inl fi), some (.inl (t)), some (.inl (4)), x8, x9], ([], (m', (none, (dy, L)))))) Q
    have e12 : m' 1 2 = m 81 0 := by rw [hm.1.1 1 (by omega)]; exact t2
    have e0 : m' 81 0 = m 81 0 := by rw [hm.1.1 81 (by omega)]
    have e5 : m' 81 5 = m 81 5 := by rw [hm.1.1 81 (by omega)]
    have e22 : m' 81 22 = m 81 22 := by rw [hm.1.1 81 (by omega)]
    refine v_iload (n := 72) xB_92 dX10_twice_70 rfl rfl ?_
    refine v_iconst (n := 73) xB_92 dX10_twice_72 ⟨by decide, by decide⟩ rfl ?_
    refine v_ic_ge_y (t := 141) xB_92 dX10_twice_73 (by decide) rfl (by first | omega | (simp only [sA_same, sA_s, ud_s, Int.reduceEq, if_true, if_false, ite_true, ite_false, ↓reduceIte, and_true, true_and, eq_self, Int.add_zero, Int.reduceAdd]; omega) | (simp (disch := omega) only [sA_same, sA_ne, ud_eq, ud_ne, Int.add_zero, Int.reduceAdd]; omega)) ?_
    exact go m' mo fi _ _ hm.1 (by rw [itN_s ht.1]; exact hmo) (by rw [itN_s ht.1]; exact hfi)
  · intro k m' h1 h2 hm ih x8 x9 mo hmo fi hfi
    show V d 92 (70, ([some (.inr (.inr 0)), some (.inl j), some (.inl o), some (.inl x), some (.inl mo), some (.inl fi), some (.inl (t)), some (.inl (k)), x8, x9], ([], (m', (none, (dy, L)))))) Q
    have e12 : m' 1 2 = m 81 0 := by rw [hm.1.1 1 (by omega)]; exact t2
    have e0 : m' 81 0 = m 81 0 := by rw [hm.1.1 81 (by omega)]
    have e5 : m' 81 5 = m 81 5 := by rw [hm.1.1 81 (by omega)]
    have e22 : m' 81 22 = m 81 22 := by rw [hm.1.1 81 (by omega)]
    refine v_iload (n := 72) xB_92 dX10_twice_70 rfl rfl ?_
    refine v_iconst (n := 73) xB_92 dX10_twice_72 ⟨by decide, by decide⟩ rfl ?_
    refine v_ic_ge_n (n := 76) xB_92 dX10_twice_73 (by decide) rfl (by first | omega | (simp only [sA_same, sA_s, ud_s, Int.reduceEq, if_true, if_false, ite_true, ite_false, ↓reduceIte, and_true, true_and, eq_self, Int.add_zero, Int.reduceAdd]; omega) | (simp (disch := omega) only [sA_same, sA_ne, ud_eq, ud_ne, Int.add_zero, Int.reduceAdd]; omega)) ?_
    refine v_iconst (n := 77) xB_92 dX10_twice_76 ⟨by decide, by decide⟩ rfl ?_
    refine v_istore8 (n := 79) xB_92 dX10_twice_77 rfl rfl ?_
    refine vk_tw3 hd ht ⟨h1, h2⟩ hI hJ hj ho hx (mo := mo) (fi := fi) hm hmo hfi _ (fun m2 mo2 fi2 x8b x9b hm2 hmo2 hfi2 => ?_)
    refine v_iinc7 (n := 138) xB_92 dX10_twice_135 rfl (by first | omega | (simp only [sA_same, sA_s, ud_s, Int.reduceEq, if_true, if_false, ite_true, ite_false, ↓reduceIte, and_true, true_and, eq_self, Int.add_zero, Int.reduceAdd]; omega) | (simp (disch := omega) only [sA_same, sA_ne, ud_eq, ud_ne, Int.add_zero, Int.reduceAdd]; omega)) rfl ?_
    refine v_goto (t := 70) xB_92 dX10_twice_138 (by decide) rfl ?_
    exact ih _ hm2 _ _ _ hmo2 _ hfi2
  · exact hm0
set_option maxHeartbeats 1000000 in
theorem k_twice {d : Nat} {m0 : PM} {CF : Int → CLs} {j o x : Int} {m : PM} {dy : List (Nat × Nat)} {L : Nat} {Q : Option PV → PS → Prop} (hd : 7 ≤ d) (hI : Inv m0 m dy) (hJ : JF m dy CF) (o1 : ∀ m' : PM, KFr m m' → Q (some (.inl (T2 m CF j o x))) (m', (none, (dy, L)))) : C d 92 [.inr (.inr 0), .inl j, .inl o, .inl x] (m, (none, (dy, L))) Q := by
  refine C_go (k := 6) hd xL_92 (fun d hd => ?_)
  show V d 92 (0, ([some (.inr (.inr 0)), some (.inl j), some (.inl o), some (.inl x), none, none, none, none, none, none], ([], (m, (none, (dy, L)))))) Q
  obtain ⟨s1, s2, t1, t2, j1, j2⟩ := If hI
  refine v_aload_n (n := 1) xB_92 dX10_twice_0 rfl rfl ?_
  refine v_iload_n (n := 2) xB_92 dX10_twice_1 rfl rfl ?_
  refine v_call_v (n := 5) xB_92 dX10_twice_2 xO_92 iv_10_162 rfl (sh_0 _ _ _) rfl rfl rfl ?_
  refine k_isJob (by omega) (by first | omega | (simp only [sA_same, sA_s, ud_s, Int.reduceEq, if_true, if_false, ite_true, ite_false, ↓reduceIte, and_true, true_and, eq_self, Int.add_zero, Int.reduceAdd]; omega) | (simp (disch := omega) only [sA_same, sA_ne, ud_eq, ud_ne, Int.add_zero, Int.reduceAdd]; omega)) (fun g1 => ?_) (fun g2 => ?_)
  · refine v_if_eq_n (n := 8) xB_92 dX10_twice_5 (by decide) rfl (by decide) ?_
    refine v_aload_n (n := 9) xB_92 dX10_twice_8 rfl rfl ?_
    refine v_iload_n (n := 10) xB_92 dX10_twice_9 rfl rfl ?_
    refine v_call_v (n := 13) xB_92 dX10_twice_10 xO_92 iv_10_162 rfl (sh_0 _ _ _) rfl rfl rfl ?_
    refine k_isJob (by omega) (by first | omega | (simp only [sA_same, sA_s, ud_s, Int.reduceEq, if_true, if_false, ite_true, ite_false, ↓reduceIte, and_true, true_and, eq_self, Int.add_zero, Int.reduceAdd]; omega) | (simp (disch := omega) only [sA_same, sA_ne, ud_eq, ud_ne, Int.add_zero, Int.reduceAdd]; omega)) (fun g3 => ?_) (fun g4 => ?_)
    · refine v_if_eq_n (n := 16) xB_92 dX10_twice_13 (by decide) rfl (by decide) ?_
      refine v_iload_n (n := 17) xB_92 dX10_twice_16 rfl rfl ?_
      refine v_call_s (n := 20) xB_92 dX10_twice_17 xO_92 sp_10_82 (Or.inl rfl) iv_10_82 rfl rfl rfl rfl ?_
      refine k_isEither (by omega)  (fun g5 => ?_) (fun g6 => ?_)
      · refine v_if_ne_y (t := 25) xB_92 dX10_twice_20 (by decide) rfl (by decide) ?_
        refine v_iconst (n := 26) xB_92 dX10_twice_25 ⟨by decide, by decide⟩ rfl ?_
        refine v_istore4 (n := 28) xB_92 dX10_twice_26 rfl rfl ?_
        refine v_bipush (n := 30) xB_92 dX10_twice_28 ⟨by decide, by decide⟩ rfl ?_
        refine v_istore5 (n := 32) xB_92 dX10_twice_30 rfl rfl ?_
        refine v_iconst (n := 33) xB_92 dX10_twice_32 ⟨by decide, by decide⟩ rfl ?_
        refine v_istore6 (n := 35) xB_92 dX10_twice_33 rfl rfl ?_
        refine lp_up (F := fun (k : Int) (m' : PM) => ∀ x7 x8 x9 : Option PV, ∀ mo : Int, mo = (itN (fun t s => itN (fun w s => itN (fun u s => upS (R2 m CF (w) u o (RA m CF (t) (m 83 (t)) j)) (100 * (t) + 10 * (w) + u) s) (m 81 0).toNat s) 4 s) (k).toNat (-1, -5)).1 → ∀ fi : Int, fi = (itN (fun t s => itN (fun w s => itN (fun u s => upS (R2 m CF (w) u o (RA m CF (t) (m 83 (t)) j)) (100 * (t) + 10 * (w) + u) s) (m 81 0).toNat s) 4 s) (k).toNat (-1, -5)).2 → V d 92 (35, ([some (.inr (.inr 0)), some (.inl j), some (.inl o), some (.inl x), some (.inl mo), some (.inl fi), some (.inl (k)), x7, x8, x9], ([], (m', (none, (dy, L)))))) Q) (E := fun (k : Int) (m' : PM) => KFr m (m')) (a := 0) (b := m 81 0) ?_ ?_ (0) (_) (by first | omega | (simp only [sA_same, sA_s, ud_s, Int.reduceEq, if_true, if_false, ite_true, ite_false, ↓reduceIte, and_true, true_and, eq_self, Int.add_zero, Int.reduceAdd]; omega) | (simp (disch := omega) only [sA_same, sA_ne, ud_eq, ud_ne, Int.add_zero, Int.reduceAdd]; omega)) (by first | omega | (simp only [sA_same, sA_s, ud_s, Int.reduceEq, if_true, if_false, ite_true, ite_false, ↓reduceIte, and_true, true_and, eq_self, Int.add_zero, Int.reduceAdd]; omega) | (simp (disch := omega) only [sA_same, sA_ne, ud_eq, ud_ne, Int.add_zero, Int.reduceAdd]; omega)) ?_ _ _ _ _ rfl _ rfl
        · intro m' hm x7 x8 x9 mo hmo fi hfi
          show V d 92 (35, ([some (.inr (.inr 0)), some (.inl j), some (.inl o), some (.inl x), some (.inl mo), some (.inl fi), some (.inl (m 81 0)), x7, x8, x9], ([], (m', (none, (dy, L)))))) Q
          have e12 : m' 1 2 = m 81 0 := by rw [hm.1 1 (by omega)]; exact t2
          have e0 : m' 81 0 = m 81 0 := by rw [hm.1 81 (by omega)]
          have e5 : m' 81 5 = m 81 5 := by rw [hm.1 81 (by omega)]
          have e22 : m' 81 22 = m 81 22 := by rw [hm.1 81 (by omega)]
          refine v_iload (n := 37) xB_92 dX10_twice_35 rfl rfl ?_
          refine v_aload_n (n := 38) xB_92 dX10_twice_37 rfl rfl ?_
          refine v_gf_s (n := 41) (kz := 0) xB_92 dX10_twice_38 xO_92 fl_10_12 fg_10_0 (sh_0 _ _ _) rfl st_0_0 rfl ?_
          refine v_gf_i (n := 44) (kz := 2) xB_92 dX10_twice_41 xO_92 fl_10_65 fg_6_2 rfl (sh_1 _ _ _) rfl rfl ?_
          refine v_ic_ge_y (t := 147) xB_92 dX10_twice_44 (by decide) rfl (by first | omega | (simp only [sA_same, sA_s, ud_s, Int.reduceEq, if_true, if_false, ite_true, ite_false, ↓reduceIte, and_true, true_and, eq_self, Int.add_zero, Int.reduceAdd]; omega) | (simp (disch := omega) only [sA_same, sA_ne, ud_eq, ud_ne, Int.add_zero, Int.reduceAdd]; omega)) ?_
          refine v_iload_n (n := 148) xB_92 dX10_twice_147 rfl rfl ?_
          refine v_if_ne (t := 156) (n := 151) xB_92 dX10_twice_148 (by decide) rfl rfl (fun g1 => ?_) (fun g1 => ?_)
          · refine v_iload (n := 158) xB_92 dX10_twice_156 rfl rfl ?_
            refine v_iconst (n := 159) xB_92 dX10_twice_158 ⟨by decide, by decide⟩ rfl ?_
            refine v_max (n := 162) xB_92 dX10_twice_159 xO_92 sp_10_196 rfl rfl ?_
            refine v_ireturn0 xB_92 dX10_twice_162 xK_92 ?_
            refine q_eqI (o1 _ hm) ?_
            unfold T2 TW
            rw [if_pos (by omega)]
            first | (rw [if_pos (by omega)]; exact hfi.symm) | (rw [if_neg (by omega), ← hmo])
          · refine v_iload (n := 153) xB_92 dX10_twice_151 rfl rfl ?_
            refine v_goto (t := 162) xB_92 dX10_twice_153 (by decide) rfl ?_
            refine v_ireturn0 xB_92 dX10_twice_162 xK_92 ?_
            refine q_eqI (o1 _ hm) ?_
            unfold T2 TW
            rw [if_pos (by omega)]
            first | (rw [if_pos (by omega)]; exact hfi.symm) | (rw [if_neg (by omega), ← hmo])
        · intro k m' h1 h2 hm ih x7 x8 x9 mo hmo fi hfi
          show V d 92 (35, ([some (.inr (.inr 0)), some (.inl j), some (.inl o), some (.inl x), some (.inl mo), some (.inl fi), some (.inl (k)), x7, x8, x9], ([], (m', (none, (dy, L)))))) Q
          have e12 : m' 1 2 = m 81 0 := by rw [hm.1 1 (by omega)]; exact t2
          have e0 : m' 81 0 = m 81 0 := by rw [hm.1 81 (by omega)]
          have e5 : m' 81 5 = m 81 5 := by rw [hm.1 81 (by omega)]
          have e22 : m' 81 22 = m 81 22 := by rw [hm.1 81 (by omega)]
          obtain ⟨i1, i2, i3, i4, i5, i6⟩ := It hI (t := k) (by omega)
          have i2b : m' (17 + 2 * k) 1 = m 83 k := by rw [hm.1 _ (by omega)]; exact i2
          refine v_iload (n := 37) xB_92 dX10_twice_35 rfl rfl ?_
          refine v_aload_n (n := 38) xB_92 dX10_twice_37 rfl rfl ?_
          refine v_gf_s (n := 41) (kz := 0) xB_92 dX10_twice_38 xO_92 fl_10_12 fg_10_0 (sh_0 _ _ _) rfl st_0_0 rfl ?_
          refine v_gf_i (n := 44) (kz := 2) xB_92 dX10_twice_41 xO_92 fl_10_65 fg_6_2 rfl (sh_1 _ _ _) rfl rfl ?_
          refine v_ic_ge_n (n := 47) xB_92 dX10_twice_44 (by decide) rfl (by first | omega | (simp only [sA_same, sA_s, ud_s, Int.reduceEq, if_true, if_false, ite_true, ite_false, ↓reduceIte, and_true, true_and, eq_self, Int.add_zero, Int.reduceAdd]; omega) | (simp (disch := omega) only [sA_same, sA_ne, ud_eq, ud_ne, Int.add_zero, Int.reduceAdd]; omega)) ?_
          refine v_aload_n (n := 48) xB_92 dX10_twice_47 rfl rfl ?_
          refine v_iload (n := 50) xB_92 dX10_twice_48 rfl rfl ?_
          refine v_aload_n (n := 51) xB_92 dX10_twice_50 rfl rfl ?_
          refine v_gf_s (n := 54) (kz := 0) xB_92 dX10_twice_51 xO_92 fl_10_12 fg_10_0 (sh_0 _ _ _) rfl st_0_0 rfl ?_
          refine v_gf_s (n := 57) (kz := 1) xB_92 dX10_twice_54 xO_92 fl_10_86 fg_6_1 (sh_1 _ _ _) rfl st_1_1 rfl ?_
          refine v_iload (n := 59) xB_92 dX10_twice_57 rfl rfl ?_
          refine v_aald_s (n := 60) (lz := 5) xB_92 dX10_twice_59 (sh_4 _ _ _) (by decide) rfl (by first | omega | (simp only [sA_same, sA_s, ud_s, Int.reduceEq, if_true, if_false, ite_true, ite_false, ↓reduceIte, and_true, true_and, eq_self, Int.add_zero, Int.reduceAdd]; omega) | (simp (disch := omega) only [sA_same, sA_ne, ud_eq, ud_ne, Int.add_zero, Int.reduceAdd]; omega)) (st_T (by omega)) rfl ?_
          refine v_gf_i (n := 63) (kz := 1) xB_92 dX10_twice_60 xO_92 fl_10_102 fg_9_1 rfl (sh_T (by first | omega | (simp only [sA_same, sA_s, ud_s, Int.reduceEq, if_true, if_false, ite_true, ite_false, ↓reduceIte, and_true, true_and, eq_self, Int.add_zero, Int.reduceAdd]; omega) | (simp (disch := omega) only [sA_same, sA_ne, ud_eq, ud_ne, Int.add_zero, Int.reduceAdd]; omega)) _ _ _) rfl rfl ?_
          refine v_iload_n (n := 64) xB_92 dX10_twice_63 rfl rfl ?_
          refine v_call_v (n := 67) xB_92 dX10_twice_64 xO_92 iv_10_182 rfl (sh_0 _ _ _) rfl rfl rfl ?_
          refine k_tryRun (by omega) (Inv_K hI hm) (JF_K hJ hm) (by first | omega | (simp only [sA_same, sA_s, ud_s, Int.reduceEq, if_true, if_false, ite_true, ite_false, ↓reduceIte, and_true, true_and, eq_self, Int.add_zero, Int.reduceAdd]; omega) | (simp (disch := omega) only [sA_same, sA_ne, ud_eq, ud_ne, Int.add_zero, Int.reduceAdd]; omega)) (by first | omega | (simp only [sA_same, sA_s, ud_s, Int.reduceEq, if_true, if_false, ite_true, ite_false, ↓reduceIte, and_true, true_and, eq_self, Int.add_zero, Int.reduceAdd]; omega) | (simp (disch := omega) only [sA_same, sA_ne, ud_eq, ud_ne, Int.add_zero, Int.reduceAdd]; omega)) (by first | omega | (simp only [sA_same, sA_s, ud_s, Int.reduceEq, if_true, if_false, ite_true, ite_false, ↓reduceIte, and_true, true_and, eq_self, Int.add_zero, Int.reduceAdd]; omega) | (simp (disch := omega) only [sA_same, sA_ne, ud_eq, ud_ne, Int.add_zero, Int.reduceAdd]; omega)) (fun mA hK e62 e63 e60 e61 => ?_)
          refine v_iconst (n := 68) xB_92 dX10_twice_67 ⟨by decide, by decide⟩ rfl ?_
          refine v_istore7 (n := 70) xB_92 dX10_twice_68 rfl rfl ?_
          refine vk_tw2 (by omega) ⟨h1, by omega⟩ hI hJ (by omega) (by omega) (by omega) (mo := mo) (fi := fi) (t := k) ⟨KFr_trans hm hK, by rw [e62]; exact e22, fun s a b => by rw [e63 s a (by rw [e22]; exact b), RA_AE (AE_K hm), i2b]⟩ hmo hfi _ _ (fun m2 mo2 fi2 x8b x9b hm2 hmo2 hfi2 => ?_)
          refine v_iinc6 (n := 144) xB_92 dX10_twice_141 rfl (by first | omega | (simp only [sA_same, sA_s, ud_s, Int.reduceEq, if_true, if_false, ite_true, ite_false, ↓reduceIte, and_true, true_and, eq_self, Int.add_zero, Int.reduceAdd]; omega) | (simp (disch := omega) only [sA_same, sA_ne, ud_eq, ud_ne, Int.add_zero, Int.reduceAdd]; omega)) rfl ?_
          refine v_goto (t := 35) xB_92 dX10_twice_144 (by decide) rfl ?_
          exact ih _ hm2 _ _ _ _ hmo2 _ hfi2
        · exact KFr_refl hI
      · refine v_if_ne_n (n := 23) xB_92 dX10_twice_20 (by decide) rfl (by decide) ?_
        refine v_iconst (n := 24) xB_92 dX10_twice_23 ⟨by decide, by decide⟩ rfl ?_
        refine v_ireturn0 xB_92 dX10_twice_24 xK_92 ?_
        refine q_eqI (o1 _ (KFr_refl hI)) ?_
        unfold T2
        rw [if_neg (by omega)]
    · refine v_if_eq_y (t := 23) xB_92 dX10_twice_13 (by decide) rfl (by decide) ?_
      refine v_iconst (n := 24) xB_92 dX10_twice_23 ⟨by decide, by decide⟩ rfl ?_
      refine v_ireturn0 xB_92 dX10_twice_24 xK_92 ?_
      refine q_eqI (o1 _ (KFr_refl hI)) ?_
      unfold T2
      rw [if_neg (by omega)]
  · refine v_if_eq_y (t := 23) xB_92 dX10_twice_5 (by decide) rfl (by decide) ?_
    refine v_iconst (n := 24) xB_92 dX10_twice_23 ⟨by decide, by decide⟩ rfl ?_
    refine v_ireturn0 xB_92 dX10_twice_24 xK_92 ?_
    refine q_eqI (o1 _ (KFr_refl hI)) ?_
    unfold T2
    rw [if_neg (by omega)]
