/-! A plan done: the reference. -/
def RFp (m m' : PM) : Prop := (∀ a : Int, a < 81 ∨ 81 < a → a < 95 ∨ 101 < a → m' a = m a) ∧ (∀ k : Int, k ≠ 22 → k ≠ 29 → k ≠ 30 → m' 81 k = m 81 k) ∧ (bl (m' 99) ∧ pgs (m' 96) ∧ pgs (m' 97) ∧ pgs (m' 98) ∧ bl (m' 100) ∧ bl (m' 101))
theorem RFp_trans {m m' m2 : PM} (h : RFp m m') (h2 : RFp m' m2) : RFp m m2 := ⟨fun a ha hb => (h2.1 a ha hb).trans (h.1 a ha hb), fun k p q r => (h2.2.1 k p q r).trans (h.2.1 k p q r), h2.2.2⟩
theorem RI_p {m m' : PM} {CF : Int → CLs} (h : RI m CF) (hf : RFp m m') (hN : 0 ≤ m' 81 22 ∧ m' 81 22 ≤ 12) : RI m' CF := by
  obtain ⟨a1, a2, a3, ⟨b1, b2, b3, b4, b5, b6, b7, b8⟩, a5, a6, a7, a8⟩ := h
  obtain ⟨h1, h2, c1, c2, c3, c4, c5, c6⟩ := hf
  have e0 := h2 0 (by omega) (by omega) (by omega)
  have e5 := h2 5 (by omega) (by omega) (by omega)
  have e34 := h2 34 (by omega) (by omega) (by omega)
  refine ⟨hN, by omega, by omega, ⟨c1, c2, c3, c4, c5, c6, by rw [h1 102 (by omega) (by omega)]; exact b7, by rw [h1 103 (by omega) (by omega)]; exact b8⟩, by rw [h1 85 (by omega) (by omega)]; exact a5, by rw [h1 82 (by omega) (by omega), h1 83 (by omega) (by omega)]; exact a6, by rw [h1 104 (by omega) (by omega), e34]; exact a7, fun j p q => JR_s (fun a x y => h1 a (by omega) (by omega)) (a8 j p (by omega))⟩
theorem plS_p {m m' : PM} (h : RFp m m') (CF : Int → CLs) : plS m' CF = plS m CF := by
  funext i s; unfold plS plR RQ
  rw [h.1 106 (by omega) (by omega), h.1 107 (by omega) (by omega), h.1 108 (by omega) (by omega), h.1 82 (by omega) (by omega), h.1 83 (by omega) (by omega), h.1 85 (by omega) (by omega)]
theorem q_p {m m2 : PM} {F f95 a b c d e f : Int → Int} (hF : ∀ k : Int, k ≠ 22 → k ≠ 29 → k ≠ 30 → F k = m 81 k) (hd : bl d) (ha : pgs a) (hb : pgs b) (hc : pgs c) (he : bl e) (hf : bl f) (E : m2 = setA (setA (setA (setA (setA (setA (setA (setA m 81 F) 95 f95) 96 a) 97 b) 98 c) 99 d) 100 e) 101 f) : RFp m m2 := by
  subst E
  refine ⟨fun x h1 h2 => by simp (disch := omega) only [sA_ne], fun k p q r => ?_, ?_, ?_, ?_, ?_, ?_, ?_⟩
  · simp (disch := omega) only [sA_ne, sA_same]; exact hF k p q r
  · simp (disch := omega) only [sA_ne, sA_same]; exact hd
  · simp (disch := omega) only [sA_ne, sA_same]; exact ha
  · simp (disch := omega) only [sA_ne, sA_same]; exact hb
  · simp (disch := omega) only [sA_ne, sA_same]; exact hc
  · simp (disch := omega) only [sA_ne, sA_same]; exact he
  · simp (disch := omega) only [sA_ne, sA_same]; exact hf
theorem q_p2 {m m2 : PM} {F a d : Int → Int} {CF : Int → CLs} (hR : RI m CF) (hF : ∀ k : Int, k ≠ 22 → k ≠ 29 → k ≠ 30 → F k = m 81 k) (hd : bl d) (ha : pgs a) (E : m2 = setA (setA (setA m 81 F) 96 a) 99 d) : RFp m m2 := by
  obtain ⟨a1, a2, a3, ⟨b1, b2, b3, b4, b5, b6, b7, b8⟩, -⟩ := hR
  refine q_p (f95 := m 95) (b := m 97) (c := m 98) (e := m 100) (f := m 101) hF hd ha b3 b4 b5 b6 ?_
  rw [E]
  funext x
  simp only [sA_s]
  (repeat' split) <;> first | rfl | omega | (subst_vars; rfl)
set_option maxRecDepth 2000 in
set_option maxHeartbeats 2000000 in
theorem c_goPlan {d : Nat} {CF : Int → CLs} {i : Int} {m : PM} {dy : List (Nat × Nat)} {L : Nat} {Q : Option PV → PS → Prop} (hd : 6 ≤ d) (hR : RI m CF) (hi : 0 ≤ i ∧ i < 6) (hw : (m 106 i = 0 ∧ (0 ≤ m 107 i ∧ m 107 i < m 81 0) ∧ (0 ≤ m 108 i ∧ m 108 i < m 81 5)) ∨ (m 106 i = 1 ∧ 0 ≤ m 107 i ∧ m 107 i ≤ 3) ∨ (m 106 i = 2 ∧ 1 ≤ m 107 i ∧ m 107 i ≤ 12)) (o1 : ∀ m' : PM, RFp m m' → m' 81 22 = (plS m CF i (m 81 22, pkA (m 96) (m 99))).1 → (∀ s, 0 ≤ s → s < m' 81 22 → pkA (m' 96) (m' 99) s = (plS m CF i (m 81 22, pkA (m 96) (m 99))).2 s) → Q none (m', (none, (dy, L)))) : C d 191 [.inr (.inr 81), .inl i] (m, (none, (dy, L))) Q := by
  refine C_go (k := 5) hd xL_191 (fun d hd => ?_)
  show V d 191 (0, ([some (.inr (.inr 81)), some (.inl i)], ([], (m, (none, (dy, L)))))) Q
  obtain ⟨s1, t1, j1, ⟨b1, b2, b3, b4, b5, b6, b7, b8⟩, r1, v1, ⟨u1, u2⟩, jr⟩ := hR
  have hR0 : RI m CF := ⟨s1, t1, j1, ⟨b1, b2, b3, b4, b5, b6, b7, b8⟩, r1, v1, ⟨u1, u2⟩, jr⟩
  rcases hw with hw | hw | hw
  · have v2 := v1 (m 107 i) (by omega) (by omega)
    refine v_aload_n (n := 1) xB_191 dX11_goPlan_0 rfl rfl ?_
    refine v_gf_s (n := 4) (kz := 39) xB_191 dX11_goPlan_1 xO_191 fl_11_129 fg_11_39 (sh_81 _ _ _) rfl st_81_39 rfl ?_
    refine v_iload_n (n := 5) xB_191 dX11_goPlan_4 rfl rfl ?_
    refine v_iaload (n := 6) (lz := 6) xB_191 dX11_goPlan_5 (sh_106 _ _ _) rfl (by first | omega | (simp only [sA_same, sA_s, ud_s, Int.reduceEq, if_true, if_false, ite_true, ite_false, ↓reduceIte, and_true, true_and, eq_self, Int.add_zero, Int.reduceAdd]; omega) | (simp (disch := omega) only [sA_same, sA_ne, ud_eq, ud_ne, Int.add_zero, Int.reduceAdd]; omega)) rfl ?_
    refine v_if_ne_n (n := 9) xB_191 dX11_goPlan_6 (by decide) rfl (by first | omega | (simp only [sA_same, sA_s, ud_s, Int.reduceEq, if_true, if_false, ite_true, ite_false, ↓reduceIte, and_true, true_and, eq_self, Int.add_zero, Int.reduceAdd]; omega) | (simp (disch := omega) only [sA_same, sA_ne, ud_eq, ud_ne, Int.add_zero, Int.reduceAdd]; omega)) ?_
    refine v_aload_n (n := 10) xB_191 dX11_goPlan_9 rfl rfl ?_
    refine v_aload_n (n := 11) xB_191 dX11_goPlan_10 rfl rfl ?_
    refine v_gf_s (n := 14) (kz := 40) xB_191 dX11_goPlan_11 xO_191 fl_11_132 fg_11_40 (sh_81 _ _ _) rfl st_81_40 rfl ?_
    refine v_iload_n (n := 15) xB_191 dX11_goPlan_14 rfl rfl ?_
    refine v_iaload (n := 16) (lz := 6) xB_191 dX11_goPlan_15 (sh_107 _ _ _) rfl (by first | omega | (simp only [sA_same, sA_s, ud_s, Int.reduceEq, if_true, if_false, ite_true, ite_false, ↓reduceIte, and_true, true_and, eq_self, Int.add_zero, Int.reduceAdd]; omega) | (simp (disch := omega) only [sA_same, sA_ne, ud_eq, ud_ne, Int.add_zero, Int.reduceAdd]; omega)) rfl ?_
    refine v_aload_n (n := 17) xB_191 dX11_goPlan_16 rfl rfl ?_
    refine v_gf_s (n := 20) (kz := 41) xB_191 dX11_goPlan_17 xO_191 fl_11_135 fg_11_41 (sh_81 _ _ _) rfl st_81_41 rfl ?_
    refine v_iload_n (n := 21) xB_191 dX11_goPlan_20 rfl rfl ?_
    refine v_iaload (n := 22) (lz := 6) xB_191 dX11_goPlan_21 (sh_108 _ _ _) rfl (by first | omega | (simp only [sA_same, sA_s, ud_s, Int.reduceEq, if_true, if_false, ite_true, ite_false, ↓reduceIte, and_true, true_and, eq_self, Int.add_zero, Int.reduceAdd]; omega) | (simp (disch := omega) only [sA_same, sA_ne, ud_eq, ud_ne, Int.add_zero, Int.reduceAdd]; omega)) rfl ?_
    refine v_call_v (n := 25) xB_191 dX11_goPlan_22 xO_191 iv_11_346 rfl (sh_81 _ _ _) rfl rfl rfl ?_
    refine c_goRun (by omega) (by first | omega | (simp only [sA_same, sA_s, ud_s, Int.reduceEq, if_true, if_false, ite_true, ite_false, ↓reduceIte, and_true, true_and, eq_self, Int.add_zero, Int.reduceAdd]; omega) | (simp (disch := omega) only [sA_same, sA_ne, ud_eq, ud_ne, Int.add_zero, Int.reduceAdd]; omega)) (jr (m 108 i) (by omega) (by omega)) (by first | omega | (simp only [sA_same, sA_s, ud_s, Int.reduceEq, if_true, if_false, ite_true, ite_false, ↓reduceIte, and_true, true_and, eq_self, Int.add_zero, Int.reduceAdd]; omega) | (simp (disch := omega) only [sA_same, sA_ne, ud_eq, ud_ne, Int.add_zero, Int.reduceAdd]; omega)) (by first | omega | (simp only [sA_same, sA_s, ud_s, Int.reduceEq, if_true, if_false, ite_true, ite_false, ↓reduceIte, and_true, true_and, eq_self, Int.add_zero, Int.reduceAdd]; omega) | (simp (disch := omega) only [sA_same, sA_ne, ud_eq, ud_ne, Int.add_zero, Int.reduceAdd]; omega)) (by first | omega | (simp only [sA_same, sA_s, ud_s, Int.reduceEq, if_true, if_false, ite_true, ite_false, ↓reduceIte, and_true, true_and, eq_self, Int.add_zero, Int.reduceAdd]; omega) | (simp (disch := omega) only [sA_same, sA_ne, ud_eq, ud_ne, Int.add_zero, Int.reduceAdd]; omega)) (by first | omega | (simp only [sA_same, sA_s, ud_s, Int.reduceEq, if_true, if_false, ite_true, ite_false, ↓reduceIte, and_true, true_and, eq_self, Int.add_zero, Int.reduceAdd]; omega) | (simp (disch := omega) only [sA_same, sA_ne, ud_eq, ud_ne, Int.add_zero, Int.reduceAdd]; omega)) r1 b1 b2 b5 b3 b6 b4 (fun f95 sd od ns dn on nd c1 c2 c3 c4 c5 c6 c7 => ?_)
    (try simp (disch := omega) only [sA_same, sA_ne, sA_sA, sA_sr, sB_s, ud_eq, ud_ne, ud_ud, ud_sr, uB_s, Int.add_zero, Int.reduceAdd])
    refine v_aload_n (n := 26) xB_191 dX11_goPlan_25 rfl rfl ?_
    refine v_gf_s (n := 29) (kz := 39) xB_191 dX11_goPlan_26 xO_191 fl_11_129 fg_11_39 (sh_81 _ _ _) rfl st_81_39 rfl ?_
    refine v_iload_n (n := 30) xB_191 dX11_goPlan_29 rfl rfl ?_
    refine v_iaload (n := 31) (lz := 6) xB_191 dX11_goPlan_30 (sh_106 _ _ _) rfl (by first | omega | (simp only [sA_same, sA_s, ud_s, Int.reduceEq, if_true, if_false, ite_true, ite_false, ↓reduceIte, and_true, true_and, eq_self, Int.add_zero, Int.reduceAdd]; omega) | (simp (disch := omega) only [sA_same, sA_ne, ud_eq, ud_ne, Int.add_zero, Int.reduceAdd]; omega)) rfl ?_
    refine v_iconst (n := 32) xB_191 dX11_goPlan_31 ⟨by decide, by decide⟩ rfl ?_
    refine v_ic_ne_y (t := 45) xB_191 dX11_goPlan_32 (by decide) rfl (by first | omega | (simp only [sA_same, sA_s, ud_s, Int.reduceEq, if_true, if_false, ite_true, ite_false, ↓reduceIte, and_true, true_and, eq_self, Int.add_zero, Int.reduceAdd]; omega) | (simp (disch := omega) only [sA_same, sA_ne, ud_eq, ud_ne, Int.add_zero, Int.reduceAdd]; omega)) ?_
    refine v_aload_n (n := 46) xB_191 dX11_goPlan_45 rfl rfl ?_
    refine v_gf_s (n := 49) (kz := 39) xB_191 dX11_goPlan_46 xO_191 fl_11_129 fg_11_39 (sh_81 _ _ _) rfl st_81_39 rfl ?_
    refine v_iload_n (n := 50) xB_191 dX11_goPlan_49 rfl rfl ?_
    refine v_iaload (n := 51) (lz := 6) xB_191 dX11_goPlan_50 (sh_106 _ _ _) rfl (by first | omega | (simp only [sA_same, sA_s, ud_s, Int.reduceEq, if_true, if_false, ite_true, ite_false, ↓reduceIte, and_true, true_and, eq_self, Int.add_zero, Int.reduceAdd]; omega) | (simp (disch := omega) only [sA_same, sA_ne, ud_eq, ud_ne, Int.add_zero, Int.reduceAdd]; omega)) rfl ?_
    refine v_iconst (n := 52) xB_191 dX11_goPlan_51 ⟨by decide, by decide⟩ rfl ?_
    refine v_ic_ne_y (t := 91) xB_191 dX11_goPlan_52 (by decide) rfl (by first | omega | (simp only [sA_same, sA_s, ud_s, Int.reduceEq, if_true, if_false, ite_true, ite_false, ↓reduceIte, and_true, true_and, eq_self, Int.add_zero, Int.reduceAdd]; omega) | (simp (disch := omega) only [sA_same, sA_ne, ud_eq, ud_ne, Int.add_zero, Int.reduceAdd]; omega)) ?_
    refine v_return xB_191 dX11_goPlan_91 xK_191 ?_
    (try simp (disch := omega) only [sA_same, sA_ne, sA_sA, sA_sr, sB_s, ud_eq, ud_ne, ud_ud, ud_sr, uB_s, Int.add_zero, Int.reduceAdd])
    refine o1 _ (q_p (fun k p q r => by simp only [ud_s]; (repeat' split) <;> first | rfl | omega) c1 c4 c5 c6 c2 c3 rfl) ?_ ?_
    · simp (disch := omega) only [sA_same, sA_ne, sA_sA, sA_sr, sB_s, ud_eq, ud_ne, ud_ud, ud_sr, uB_s, Int.add_zero, Int.reduceAdd]
      unfold plS plR
      rw [if_pos hw.1]
    · intro s q1 q2
      simp (disch := omega) only [sA_same, sA_ne, sA_sA, sA_sr, sB_s, ud_eq, ud_ne, ud_ud, ud_sr, uB_s, Int.add_zero, Int.reduceAdd] at q2 ⊢
      unfold plS plR
      rw [if_pos hw.1]
      exact c7 s q1 q2
  · skip
    refine v_aload_n (n := 1) xB_191 dX11_goPlan_0 rfl rfl ?_
    refine v_gf_s (n := 4) (kz := 39) xB_191 dX11_goPlan_1 xO_191 fl_11_129 fg_11_39 (sh_81 _ _ _) rfl st_81_39 rfl ?_
    refine v_iload_n (n := 5) xB_191 dX11_goPlan_4 rfl rfl ?_
    refine v_iaload (n := 6) (lz := 6) xB_191 dX11_goPlan_5 (sh_106 _ _ _) rfl (by first | omega | (simp only [sA_same, sA_s, ud_s, Int.reduceEq, if_true, if_false, ite_true, ite_false, ↓reduceIte, and_true, true_and, eq_self, Int.add_zero, Int.reduceAdd]; omega) | (simp (disch := omega) only [sA_same, sA_ne, ud_eq, ud_ne, Int.add_zero, Int.reduceAdd]; omega)) rfl ?_
    refine v_if_ne_y (t := 25) xB_191 dX11_goPlan_6 (by decide) rfl (by first | omega | (simp only [sA_same, sA_s, ud_s, Int.reduceEq, if_true, if_false, ite_true, ite_false, ↓reduceIte, and_true, true_and, eq_self, Int.add_zero, Int.reduceAdd]; omega) | (simp (disch := omega) only [sA_same, sA_ne, ud_eq, ud_ne, Int.add_zero, Int.reduceAdd]; omega)) ?_
    refine v_aload_n (n := 26) xB_191 dX11_goPlan_25 rfl rfl ?_
    refine v_gf_s (n := 29) (kz := 39) xB_191 dX11_goPlan_26 xO_191 fl_11_129 fg_11_39 (sh_81 _ _ _) rfl st_81_39 rfl ?_
    refine v_iload_n (n := 30) xB_191 dX11_goPlan_29 rfl rfl ?_
    refine v_iaload (n := 31) (lz := 6) xB_191 dX11_goPlan_30 (sh_106 _ _ _) rfl (by first | omega | (simp only [sA_same, sA_s, ud_s, Int.reduceEq, if_true, if_false, ite_true, ite_false, ↓reduceIte, and_true, true_and, eq_self, Int.add_zero, Int.reduceAdd]; omega) | (simp (disch := omega) only [sA_same, sA_ne, ud_eq, ud_ne, Int.add_zero, Int.reduceAdd]; omega)) rfl ?_
    refine v_iconst (n := 32) xB_191 dX11_goPlan_31 ⟨by decide, by decide⟩ rfl ?_
    refine v_ic_ne_n (n := 35) xB_191 dX11_goPlan_32 (by decide) rfl (by first | omega | (simp only [sA_same, sA_s, ud_s, Int.reduceEq, if_true, if_false, ite_true, ite_false, ↓reduceIte, and_true, true_and, eq_self, Int.add_zero, Int.reduceAdd]; omega) | (simp (disch := omega) only [sA_same, sA_ne, ud_eq, ud_ne, Int.add_zero, Int.reduceAdd]; omega)) ?_
    refine v_aload_n (n := 36) xB_191 dX11_goPlan_35 rfl rfl ?_
    refine v_aload_n (n := 37) xB_191 dX11_goPlan_36 rfl rfl ?_
    refine v_gf_s (n := 40) (kz := 40) xB_191 dX11_goPlan_37 xO_191 fl_11_132 fg_11_40 (sh_81 _ _ _) rfl st_81_40 rfl ?_
    refine v_iload_n (n := 41) xB_191 dX11_goPlan_40 rfl rfl ?_
    refine v_iaload (n := 42) (lz := 6) xB_191 dX11_goPlan_41 (sh_107 _ _ _) rfl (by first | omega | (simp only [sA_same, sA_s, ud_s, Int.reduceEq, if_true, if_false, ite_true, ite_false, ↓reduceIte, and_true, true_and, eq_self, Int.add_zero, Int.reduceAdd]; omega) | (simp (disch := omega) only [sA_same, sA_ne, ud_eq, ud_ne, Int.add_zero, Int.reduceAdd]; omega)) rfl ?_
    refine v_call_v (n := 45) xB_191 dX11_goPlan_42 xO_191 iv_11_315 rfl (sh_81 _ _ _) rfl rfl rfl ?_
    refine c_goWay (by omega) (by first | omega | (simp only [sA_same, sA_s, ud_s, Int.reduceEq, if_true, if_false, ite_true, ite_false, ↓reduceIte, and_true, true_and, eq_self, Int.add_zero, Int.reduceAdd]; omega) | (simp (disch := omega) only [sA_same, sA_ne, ud_eq, ud_ne, Int.add_zero, Int.reduceAdd]; omega)) (by first | omega | (simp only [sA_same, sA_s, ud_s, Int.reduceEq, if_true, if_false, ite_true, ite_false, ↓reduceIte, and_true, true_and, eq_self, Int.add_zero, Int.reduceAdd]; omega) | (simp (disch := omega) only [sA_same, sA_ne, ud_eq, ud_ne, Int.add_zero, Int.reduceAdd]; omega)) b1 b2 (fun sd dn c1 c4 c7 => ?_)
    (try simp (disch := omega) only [sA_same, sA_ne, sA_sA, sA_sr, sB_s, ud_eq, ud_ne, ud_ud, ud_sr, uB_s, Int.add_zero, Int.reduceAdd])
    refine v_aload_n (n := 46) xB_191 dX11_goPlan_45 rfl rfl ?_
    refine v_gf_s (n := 49) (kz := 39) xB_191 dX11_goPlan_46 xO_191 fl_11_129 fg_11_39 (sh_81 _ _ _) rfl st_81_39 rfl ?_
    refine v_iload_n (n := 50) xB_191 dX11_goPlan_49 rfl rfl ?_
    refine v_iaload (n := 51) (lz := 6) xB_191 dX11_goPlan_50 (sh_106 _ _ _) rfl (by first | omega | (simp only [sA_same, sA_s, ud_s, Int.reduceEq, if_true, if_false, ite_true, ite_false, ↓reduceIte, and_true, true_and, eq_self, Int.add_zero, Int.reduceAdd]; omega) | (simp (disch := omega) only [sA_same, sA_ne, ud_eq, ud_ne, Int.add_zero, Int.reduceAdd]; omega)) rfl ?_
    refine v_iconst (n := 52) xB_191 dX11_goPlan_51 ⟨by decide, by decide⟩ rfl ?_
    refine v_ic_ne_y (t := 91) xB_191 dX11_goPlan_52 (by decide) rfl (by first | omega | (simp only [sA_same, sA_s, ud_s, Int.reduceEq, if_true, if_false, ite_true, ite_false, ↓reduceIte, and_true, true_and, eq_self, Int.add_zero, Int.reduceAdd]; omega) | (simp (disch := omega) only [sA_same, sA_ne, ud_eq, ud_ne, Int.add_zero, Int.reduceAdd]; omega)) ?_
    refine v_return xB_191 dX11_goPlan_91 xK_191 ?_
    (try simp (disch := omega) only [sA_same, sA_ne, sA_sA, sA_sr, sB_s, ud_eq, ud_ne, ud_ud, ud_sr, uB_s, Int.add_zero, Int.reduceAdd])
    refine o1 _ (q_p2 (F := m 81) hR0 (fun _ _ _ _ => rfl) c1 c4 (by rw [sA_id])) ?_ ?_
    · simp (disch := omega) only [sA_same, sA_ne, sA_sA, sA_sr, sB_s, ud_eq, ud_ne, ud_ud, ud_sr, uB_s, Int.add_zero, Int.reduceAdd]
      unfold plS plR
      rw [if_neg (by omega), if_pos hw.1]
    · intro s q1 q2
      simp (disch := omega) only [sA_same, sA_ne, sA_sA, sA_sr, sB_s, ud_eq, ud_ne, ud_ud, ud_sr, uB_s, Int.add_zero, Int.reduceAdd] at q2 ⊢
      unfold plS plR
      rw [if_neg (by omega), if_pos hw.1]
      exact c7 s q1 q2
  · skip
    refine v_aload_n (n := 1) xB_191 dX11_goPlan_0 rfl rfl ?_
    refine v_gf_s (n := 4) (kz := 39) xB_191 dX11_goPlan_1 xO_191 fl_11_129 fg_11_39 (sh_81 _ _ _) rfl st_81_39 rfl ?_
    refine v_iload_n (n := 5) xB_191 dX11_goPlan_4 rfl rfl ?_
    refine v_iaload (n := 6) (lz := 6) xB_191 dX11_goPlan_5 (sh_106 _ _ _) rfl (by first | omega | (simp only [sA_same, sA_s, ud_s, Int.reduceEq, if_true, if_false, ite_true, ite_false, ↓reduceIte, and_true, true_and, eq_self, Int.add_zero, Int.reduceAdd]; omega) | (simp (disch := omega) only [sA_same, sA_ne, ud_eq, ud_ne, Int.add_zero, Int.reduceAdd]; omega)) rfl ?_
    refine v_if_ne_y (t := 25) xB_191 dX11_goPlan_6 (by decide) rfl (by first | omega | (simp only [sA_same, sA_s, ud_s, Int.reduceEq, if_true, if_false, ite_true, ite_false, ↓reduceIte, and_true, true_and, eq_self, Int.add_zero, Int.reduceAdd]; omega) | (simp (disch := omega) only [sA_same, sA_ne, ud_eq, ud_ne, Int.add_zero, Int.reduceAdd]; omega)) ?_
    refine v_aload_n (n := 26) xB_191 dX11_goPlan_25 rfl rfl ?_
    refine v_gf_s (n := 29) (kz := 39) xB_191 dX11_goPlan_26 xO_191 fl_11_129 fg_11_39 (sh_81 _ _ _) rfl st_81_39 rfl ?_
    refine v_iload_n (n := 30) xB_191 dX11_goPlan_29 rfl rfl ?_
    refine v_iaload (n := 31) (lz := 6) xB_191 dX11_goPlan_30 (sh_106 _ _ _) rfl (by first | omega | (simp only [sA_same, sA_s, ud_s, Int.reduceEq, if_true, if_false, ite_true, ite_false, ↓reduceIte, and_true, true_and, eq_self, Int.add_zero, Int.reduceAdd]; omega) | (simp (disch := omega) only [sA_same, sA_ne, ud_eq, ud_ne, Int.add_zero, Int.reduceAdd]; omega)) rfl ?_
    refine v_iconst (n := 32) xB_191 dX11_goPlan_31 ⟨by decide, by decide⟩ rfl ?_
    refine v_ic_ne_y (t := 45) xB_191 dX11_goPlan_32 (by decide) rfl (by first | omega | (simp only [sA_same, sA_s, ud_s, Int.reduceEq, if_true, if_false, ite_true, ite_false, ↓reduceIte, and_true, true_and, eq_self, Int.add_zero, Int.reduceAdd]; omega) | (simp (disch := omega) only [sA_same, sA_ne, ud_eq, ud_ne, Int.add_zero, Int.reduceAdd]; omega)) ?_
    refine v_aload_n (n := 46) xB_191 dX11_goPlan_45 rfl rfl ?_
    refine v_gf_s (n := 49) (kz := 39) xB_191 dX11_goPlan_46 xO_191 fl_11_129 fg_11_39 (sh_81 _ _ _) rfl st_81_39 rfl ?_
    refine v_iload_n (n := 50) xB_191 dX11_goPlan_49 rfl rfl ?_
    refine v_iaload (n := 51) (lz := 6) xB_191 dX11_goPlan_50 (sh_106 _ _ _) rfl (by first | omega | (simp only [sA_same, sA_s, ud_s, Int.reduceEq, if_true, if_false, ite_true, ite_false, ↓reduceIte, and_true, true_and, eq_self, Int.add_zero, Int.reduceAdd]; omega) | (simp (disch := omega) only [sA_same, sA_ne, ud_eq, ud_ne, Int.add_zero, Int.reduceAdd]; omega)) rfl ?_
    refine v_iconst (n := 52) xB_191 dX11_goPlan_51 ⟨by decide, by decide⟩ rfl ?_
    refine v_ic_ne_n (n := 55) xB_191 dX11_goPlan_52 (by decide) rfl (by first | omega | (simp only [sA_same, sA_s, ud_s, Int.reduceEq, if_true, if_false, ite_true, ite_false, ↓reduceIte, and_true, true_and, eq_self, Int.add_zero, Int.reduceAdd]; omega) | (simp (disch := omega) only [sA_same, sA_ne, ud_eq, ud_ne, Int.add_zero, Int.reduceAdd]; omega)) ?_
    refine v_aload_n (n := 56) xB_191 dX11_goPlan_55 rfl rfl ?_
    refine v_aload_n (n := 57) xB_191 dX11_goPlan_56 rfl rfl ?_
    refine v_gf_s (n := 60) (kz := 40) xB_191 dX11_goPlan_57 xO_191 fl_11_132 fg_11_40 (sh_81 _ _ _) rfl st_81_40 rfl ?_
    refine v_iload_n (n := 61) xB_191 dX11_goPlan_60 rfl rfl ?_
    refine v_iaload (n := 62) (lz := 6) xB_191 dX11_goPlan_61 (sh_107 _ _ _) rfl (by first | omega | (simp only [sA_same, sA_s, ud_s, Int.reduceEq, if_true, if_false, ite_true, ite_false, ↓reduceIte, and_true, true_and, eq_self, Int.add_zero, Int.reduceAdd]; omega) | (simp (disch := omega) only [sA_same, sA_ne, ud_eq, ud_ne, Int.add_zero, Int.reduceAdd]; omega)) rfl ?_
    refine v_bipush (n := 64) xB_191 dX11_goPlan_62 ⟨by decide, by decide⟩ rfl ?_
    refine v_aload_n (n := 65) xB_191 dX11_goPlan_64 rfl rfl ?_
    refine v_gf_i (n := 68) (kz := 22) xB_191 dX11_goPlan_65 xO_191 fl_11_78 fg_11_22 rfl (sh_81 _ _ _) rfl rfl ?_
    refine v_isub (n := 69) xB_191 dX11_goPlan_68 (by first | omega | (simp only [sA_same, sA_s, ud_s, Int.reduceEq, if_true, if_false, ite_true, ite_false, ↓reduceIte, and_true, true_and, eq_self, Int.add_zero, Int.reduceAdd]; omega) | (simp (disch := omega) only [sA_same, sA_ne, ud_eq, ud_ne, Int.add_zero, Int.reduceAdd]; omega)) rfl ?_
    refine v_ic_ge (t := 81) (n := 72) xB_191 dX11_goPlan_69 (by decide) rfl rfl (fun g1 => ?_) (fun g1 => ?_)
    · (try simp (disch := omega) only [sA_same, sA_ne, sA_sA, sA_sr, sB_s, ud_eq, ud_ne, ud_ud, ud_sr, uB_s, Int.add_zero, Int.reduceAdd] at g1)
      refine v_bipush (n := 83) xB_191 dX11_goPlan_81 ⟨by decide, by decide⟩ rfl ?_
      refine v_aload_n (n := 84) xB_191 dX11_goPlan_83 rfl rfl ?_
      refine v_gf_i (n := 87) (kz := 22) xB_191 dX11_goPlan_84 xO_191 fl_11_78 fg_11_22 rfl (sh_81 _ _ _) rfl rfl ?_
      refine v_isub (n := 88) xB_191 dX11_goPlan_87 (by first | omega | (simp only [sA_same, sA_s, ud_s, Int.reduceEq, if_true, if_false, ite_true, ite_false, ↓reduceIte, and_true, true_and, eq_self, Int.add_zero, Int.reduceAdd]; omega) | (simp (disch := omega) only [sA_same, sA_ne, ud_eq, ud_ne, Int.add_zero, Int.reduceAdd]; omega)) rfl ?_
      refine v_call_v (n := 91) xB_191 dX11_goPlan_88 xO_191 iv_11_300 rfl (sh_81 _ _ _) rfl rfl rfl ?_
      refine c_loads (by omega) (by first | omega | (simp only [sA_same, sA_s, ud_s, Int.reduceEq, if_true, if_false, ite_true, ite_false, ↓reduceIte, and_true, true_and, eq_self, Int.add_zero, Int.reduceAdd]; omega) | (simp (disch := omega) only [sA_same, sA_ne, ud_eq, ud_ne, Int.add_zero, Int.reduceAdd]; omega)) (by first | omega | (simp only [sA_same, sA_s, ud_s, Int.reduceEq, if_true, if_false, ite_true, ite_false, ↓reduceIte, and_true, true_and, eq_self, Int.add_zero, Int.reduceAdd]; omega) | (simp (disch := omega) only [sA_same, sA_ne, ud_eq, ud_ne, Int.add_zero, Int.reduceAdd]; omega)) b1 b2 (fun sd dn c1 c4 c7 => ?_)
      (try simp (disch := omega) only [sA_same, sA_ne, sA_sA, sA_sr, sB_s, ud_eq, ud_ne, ud_ud, ud_sr, uB_s, Int.add_zero, Int.reduceAdd])
      refine v_return xB_191 dX11_goPlan_91 xK_191 ?_
      first
      | (have hmn : mnF (m 107 i) (12 - m 81 22) = m 107 i := by unfold mnF; rw [if_neg (by omega)]
         rw [← hmn] at c7 ⊢
         (try simp (disch := omega) only [sA_same, sA_ne, sA_sA, sA_sr, sB_s, ud_eq, ud_ne, ud_ud, ud_sr, uB_s, Int.add_zero, Int.reduceAdd])
         refine o1 _ (q_p2 hR0 (fun k p q r => by simp only [ud_s]; (repeat' split) <;> first | rfl | omega) c1 c4 rfl) ?_ ?_
         · simp (disch := omega) only [sA_same, sA_ne, sA_sA, sA_sr, sB_s, ud_eq, ud_ne, ud_ud, ud_sr, uB_s, Int.add_zero, Int.reduceAdd]
           unfold plS plR
           rw [if_neg (by omega), if_neg (by omega)]
         · intro s q1 q2
           simp (disch := omega) only [sA_same, sA_ne, sA_sA, sA_sr, sB_s, ud_eq, ud_ne, ud_ud, ud_sr, uB_s, Int.add_zero, Int.reduceAdd] at q2 ⊢
           unfold plS plR
           rw [if_neg (by omega), if_neg (by omega)]
           exact c7 s q1 q2)
      | (have hmn : mnF (m 107 i) (12 - m 81 22) = 12 - m 81 22 := by unfold mnF; split <;> omega
         rw [← hmn] at c7 ⊢
         (try simp (disch := omega) only [sA_same, sA_ne, sA_sA, sA_sr, sB_s, ud_eq, ud_ne, ud_ud, ud_sr, uB_s, Int.add_zero, Int.reduceAdd])
         refine o1 _ (q_p2 hR0 (fun k p q r => by simp only [ud_s]; (repeat' split) <;> first | rfl | omega) c1 c4 rfl) ?_ ?_
         · simp (disch := omega) only [sA_same, sA_ne, sA_sA, sA_sr, sB_s, ud_eq, ud_ne, ud_ud, ud_sr, uB_s, Int.add_zero, Int.reduceAdd]
           unfold plS plR
           rw [if_neg (by omega), if_neg (by omega)]
         · intro s q1 q2
           simp (disch := omega) only [sA_same, sA_ne, sA_sA, sA_sr, sB_s, ud_eq, ud_ne, ud_ud, ud_sr, uB_s, Int.add_zero, Int.reduceAdd] at q2 ⊢
           unfold plS plR
           rw [if_neg (by omega), if_neg (by omega)]
           exact c7 s q1 q2)
    · (try simp (disch := omega) only [sA_same, sA_ne, sA_sA, sA_sr, sB_s, ud_eq, ud_ne, ud_ud, ud_sr, uB_s, Int.add_zero, Int.reduceAdd] at g1)
      refine v_aload_n (n := 73) xB_191 dX11_goPlan_72 rfl rfl ?_
      refine v_gf_s (n := 76) (kz := 40) xB_191 dX11_goPlan_73 xO_191 fl_11_132 fg_11_40 (sh_81 _ _ _) rfl st_81_40 rfl ?_
      refine v_iload_n (n := 77) xB_191 dX11_goPlan_76 rfl rfl ?_
      refine v_iaload (n := 78) (lz := 6) xB_191 dX11_goPlan_77 (sh_107 _ _ _) rfl (by first | omega | (simp only [sA_same, sA_s, ud_s, Int.reduceEq, if_true, if_false, ite_true, ite_false, ↓reduceIte, and_true, true_and, eq_self, Int.add_zero, Int.reduceAdd]; omega) | (simp (disch := omega) only [sA_same, sA_ne, ud_eq, ud_ne, Int.add_zero, Int.reduceAdd]; omega)) rfl ?_
      refine v_goto (t := 88) xB_191 dX11_goPlan_78 (by decide) rfl ?_
      refine v_call_v (n := 91) xB_191 dX11_goPlan_88 xO_191 iv_11_300 rfl (sh_81 _ _ _) rfl rfl rfl ?_
      refine c_loads (by omega) (by first | omega | (simp only [sA_same, sA_s, ud_s, Int.reduceEq, if_true, if_false, ite_true, ite_false, ↓reduceIte, and_true, true_and, eq_self, Int.add_zero, Int.reduceAdd]; omega) | (simp (disch := omega) only [sA_same, sA_ne, ud_eq, ud_ne, Int.add_zero, Int.reduceAdd]; omega)) (by first | omega | (simp only [sA_same, sA_s, ud_s, Int.reduceEq, if_true, if_false, ite_true, ite_false, ↓reduceIte, and_true, true_and, eq_self, Int.add_zero, Int.reduceAdd]; omega) | (simp (disch := omega) only [sA_same, sA_ne, ud_eq, ud_ne, Int.add_zero, Int.reduceAdd]; omega)) b1 b2 (fun sd dn c1 c4 c7 => ?_)
      (try simp (disch := omega) only [sA_same, sA_ne, sA_sA, sA_sr, sB_s, ud_eq, ud_ne, ud_ud, ud_sr, uB_s, Int.add_zero, Int.reduceAdd])
      refine v_return xB_191 dX11_goPlan_91 xK_191 ?_
      first
      | (have hmn : mnF (m 107 i) (12 - m 81 22) = m 107 i := by unfold mnF; rw [if_neg (by omega)]
         rw [← hmn] at c7 ⊢
         (try simp (disch := omega) only [sA_same, sA_ne, sA_sA, sA_sr, sB_s, ud_eq, ud_ne, ud_ud, ud_sr, uB_s, Int.add_zero, Int.reduceAdd])
         refine o1 _ (q_p2 hR0 (fun k p q r => by simp only [ud_s]; (repeat' split) <;> first | rfl | omega) c1 c4 rfl) ?_ ?_
         · simp (disch := omega) only [sA_same, sA_ne, sA_sA, sA_sr, sB_s, ud_eq, ud_ne, ud_ud, ud_sr, uB_s, Int.add_zero, Int.reduceAdd]
           unfold plS plR
           rw [if_neg (by omega), if_neg (by omega)]
         · intro s q1 q2
           simp (disch := omega) only [sA_same, sA_ne, sA_sA, sA_sr, sB_s, ud_eq, ud_ne, ud_ud, ud_sr, uB_s, Int.add_zero, Int.reduceAdd] at q2 ⊢
           unfold plS plR
           rw [if_neg (by omega), if_neg (by omega)]
           exact c7 s q1 q2)
      | (have hmn : mnF (m 107 i) (12 - m 81 22) = 12 - m 81 22 := by unfold mnF; split <;> omega
         rw [← hmn] at c7 ⊢
         (try simp (disch := omega) only [sA_same, sA_ne, sA_sA, sA_sr, sB_s, ud_eq, ud_ne, ud_ud, ud_sr, uB_s, Int.add_zero, Int.reduceAdd])
         refine o1 _ (q_p2 hR0 (fun k p q r => by simp only [ud_s]; (repeat' split) <;> first | rfl | omega) c1 c4 rfl) ?_ ?_
         · simp (disch := omega) only [sA_same, sA_ne, sA_sA, sA_sr, sB_s, ud_eq, ud_ne, ud_ud, ud_sr, uB_s, Int.add_zero, Int.reduceAdd]
           unfold plS plR
           rw [if_neg (by omega), if_neg (by omega)]
         · intro s q1 q2
           simp (disch := omega) only [sA_same, sA_ne, sA_sA, sA_sr, sB_s, ud_eq, ud_ne, ud_ud, ud_sr, uB_s, Int.add_zero, Int.reduceAdd] at q2 ⊢
           unfold plS plR
           rw [if_neg (by omega), if_neg (by omega)]
           exact c7 s q1 q2)
set_option maxHeartbeats 1000000 in
theorem c_done {d : Nat} {CF : Int → CLs} {x : Int} {m : PM} {dy : List (Nat × Nat)} {L : Nat} {Q : Option PV → PS → Prop} (hd : 8 ≤ d) (hR : RI m CF) (hP : ((0 ≤ m 81 37 ∧ m 81 37 ≤ 6) ∧ (∀ k, 0 ≤ k → k < m 81 37 → (m 106 k = 0 ∧ (0 ≤ m 107 k ∧ m 107 k < m 81 0) ∧ (0 ≤ m 108 k ∧ m 108 k < m 81 5)) ∨ (m 106 k = 1 ∧ 0 ≤ m 107 k ∧ m 107 k ≤ 3) ∨ (m 106 k = 2 ∧ 1 ≤ m 107 k ∧ m 107 k ≤ 12)))) (o1 : ∀ m' : PM, RFr m m' → Q (some (.inl (DN m CF x))) (m', (none, (dy, L)))) : C d 192 [.inr (.inr 81), .inl x] (m, (none, (dy, L))) Q := by
  refine C_go (k := 7) hd xL_192 (fun d hd => ?_)
  show V d 192 (0, ([some (.inr (.inr 81)), some (.inl x), none], ([], (m, (none, (dy, L)))))) Q
  obtain ⟨s1, t1, j1, ⟨b1, b2, b3, b4, b5, b6, b7, b8⟩, r1, v1, ⟨u1, u2⟩, jr⟩ := hR
  have hR0 : RI m CF := ⟨s1, t1, j1, ⟨b1, b2, b3, b4, b5, b6, b7, b8⟩, r1, v1, ⟨u1, u2⟩, jr⟩
  have u1 := hP.1
  have hR1 : RI (setA (setA (setA m 81 (ud (m 81) 31 (m 81 22))) 102 (ivl (m 96) (m 102) 0 24)) 103 (ivl (m 99) (m 103) 0 24)) CF := by
    obtain ⟨a1, a2, a3, a4, a5, a6, a7, a8⟩ := hR0
    unfold RI
    simp (disch := omega) only [sA_same, sA_ne, sA_sA, sA_sr, sB_s, ud_eq, ud_ne, ud_ud, ud_sr, uB_s, Int.add_zero, Int.reduceAdd]
    exact ⟨a1, a2, a3, ⟨b1, b2, b3, b4, b5, b6, pgs_ivl b2 b7 _ _, bl_ivl b1 b8 _ _⟩, a5, a6, a7, fun j p q => JR_s (fun a x y => by simp (disch := omega) only [sA_ne]) (a8 j p q)⟩
  refine v_aload_n (n := 1) xB_192 dX11_done_0 rfl rfl ?_
  refine v_iload_n (n := 2) xB_192 dX11_done_1 rfl rfl ?_
  refine v_iconst (n := 3) xB_192 dX11_done_2 ⟨by decide, by decide⟩ rfl ?_
  refine v_iconst (n := 4) xB_192 dX11_done_3 ⟨by decide, by decide⟩ rfl ?_
  refine v_call_v (n := 7) xB_192 dX11_done_4 xO_192 iv_11_221 rfl (sh_81 _ _ _) rfl rfl rfl ?_
  refine c_in (by omega)  (fun g1 => ?_) (fun g2 => ?_)
  · (try simp (disch := omega) only [sA_same, sA_ne, sA_sA, sA_sr, sB_s, ud_eq, ud_ne, ud_ud, ud_sr, uB_s, Int.add_zero, Int.reduceAdd] at g1)
    refine v_if_ne_y (t := 12) xB_192 dX11_done_7 (by decide) rfl (by decide) ?_
    refine v_aload_n (n := 13) xB_192 dX11_done_12 rfl rfl ?_
    refine v_call_v (n := 16) xB_192 dX11_done_13 xO_192 iv_11_349 rfl (sh_81 _ _ _) rfl rfl rfl ?_
    refine c_save (by omega) b1 ?_
    (try simp (disch := omega) only [sA_same, sA_ne, sA_sA, sA_sr, sB_s, ud_eq, ud_ne, ud_ud, ud_sr, uB_s, Int.add_zero, Int.reduceAdd])
    refine v_iconst (n := 17) xB_192 dX11_done_16 ⟨by decide, by decide⟩ rfl ?_
    refine v_istore_n2 (n := 18) xB_192 dX11_done_17 rfl rfl ?_
    refine lp_up (F := fun (k : Int) (m' : PM) => V d 192 (18, ([some (.inr (.inr 81)), some (.inl x), some (.inl (k))], ([], (m', (none, (dy, L)))))) Q) (E := fun (k : Int) (m' : PM) => RFp (setA (setA (setA m 81 (ud (m 81) 31 (m 81 22))) 102 (ivl (m 96) (m 102) 0 24)) 103 (ivl (m 99) (m 103) 0 24)) (m') ∧ (0 ≤ (m') 81 22 ∧ (m') 81 22 ≤ 12) ∧ (m') 81 22 = (itN (plS m CF) (k).toNat (m 81 22, pc m)).1 ∧ (∀ s, 0 ≤ s → s < (m') 81 22 → pkA ((m') 96) ((m') 99) s = (itN (plS m CF) (k).toNat (m 81 22, pc m)).2 s)) (a := 0) (b := m 81 37) ?_ ?_ (0) (_) (by first | omega | (simp only [sA_same, sA_s, ud_s, Int.reduceEq, if_true, if_false, ite_true, ite_false, ↓reduceIte, and_true, true_and, eq_self, Int.add_zero, Int.reduceAdd]; omega) | (simp (disch := omega) only [sA_same, sA_ne, ud_eq, ud_ne, Int.add_zero, Int.reduceAdd]; omega)) (by first | omega | (simp only [sA_same, sA_s, ud_s, Int.reduceEq, if_true, if_false, ite_true, ite_false, ↓reduceIte, and_true, true_and, eq_self, Int.add_zero, Int.reduceAdd]; omega) | (simp (disch := omega) only [sA_same, sA_ne, ud_eq, ud_ne, Int.add_zero, Int.reduceAdd]; omega)) ?_
    · intro m' hm
      show V d 192 (18, ([some (.inr (.inr 81)), some (.inl x), some (.inl (m 81 37))], ([], (m', (none, (dy, L)))))) Q
      obtain ⟨hm1, hm2, hm3, hm4⟩ := hm
      have e37 : m' 81 37 = m 81 37 := by rw [hm1.2.1 37 (by omega) (by omega) (by omega)]; simp (disch := omega) only [sA_same, sA_ne, sA_sA, sA_sr, sB_s, ud_eq, ud_ne, ud_ud, ud_sr, uB_s, Int.add_zero, Int.reduceAdd]
      have hRm := RI_p hR1 hm1 hm2
      have hA1 := hRm.2.2.2.1.1
      have hA2 := hRm.2.2.2.1.2.1
      refine v_iload_n (n := 19) xB_192 dX11_done_18 rfl rfl ?_
      refine v_aload_n (n := 20) xB_192 dX11_done_19 rfl rfl ?_
      refine v_gf_i (n := 23) (kz := 37) xB_192 dX11_done_20 xO_192 fl_11_123 fg_11_37 rfl (sh_81 _ _ _) rfl rfl ?_
      refine v_ic_ge_y (t := 37) xB_192 dX11_done_23 (by decide) rfl (by first | omega | (simp only [sA_same, sA_s, ud_s, Int.reduceEq, if_true, if_false, ite_true, ite_false, ↓reduceIte, and_true, true_and, eq_self, Int.add_zero, Int.reduceAdd]; omega) | (simp (disch := omega) only [sA_same, sA_ne, ud_eq, ud_ne, Int.add_zero, Int.reduceAdd]; omega)) ?_
      refine v_iload_n (n := 38) xB_192 dX11_done_37 rfl rfl ?_
      refine v_if_ne (t := 48) (n := 41) xB_192 dX11_done_38 (by decide) rfl rfl (fun g1 => ?_) (fun g1 => ?_)
      · refine v_aload_n (n := 49) xB_192 dX11_done_48 rfl rfl ?_
        refine v_bipush (n := 51) xB_192 dX11_done_49 ⟨by decide, by decide⟩ rfl ?_
        refine v_call_v (n := 54) xB_192 dX11_done_51 xO_192 iv_11_321 rfl (sh_81 _ _ _) rfl rfl rfl ?_
        refine c_sidesWith (by omega) (by first | omega | (simp only [sA_same, sA_s, ud_s, Int.reduceEq, if_true, if_false, ite_true, ite_false, ↓reduceIte, and_true, true_and, eq_self, Int.add_zero, Int.reduceAdd]; omega) | (simp (disch := omega) only [sA_same, sA_ne, ud_eq, ud_ne, Int.add_zero, Int.reduceAdd]; omega)) hA1 hA2 ?_
        refine v_istore_n2 (n := 55) xB_192 dX11_done_54 rfl rfl ?_
        refine v_aload_n (n := 56) xB_192 dX11_done_55 rfl rfl ?_
        refine v_call_v (n := 59) xB_192 dX11_done_56 xO_192 iv_11_352 rfl (sh_81 _ _ _) rfl rfl rfl ?_
        refine c_putBack (by omega) hRm.2.2.2.1.2.2.2.2.2.2.2 ?_
        refine v_iload_n (n := 60) xB_192 dX11_done_59 rfl rfl ?_
        refine v_ireturn0 xB_192 dX11_done_60 xK_192 ?_
        have hD : (DF m CF) = (m' 81 22, (DF m CF).2) := by unfold DF; rw [hm3]
        have f31 : m' 81 31 = m 81 22 := by rw [hm1.2.1 31 (by omega) (by omega) (by omega)]; simp (disch := omega) only [sA_same, sA_ne, sA_sA, sA_sr, sB_s, ud_eq, ud_ne, ud_ud, ud_sr, uB_s, Int.add_zero, Int.reduceAdd]
        have f102 : m' 102 = ivl (m 96) (m 102) 0 24 := by rw [hm1.1 102 (by omega) (by omega)]; simp (disch := omega) only [sA_same, sA_ne, sA_sA, sA_sr, sB_s, ud_eq, ud_ne, ud_ud, ud_sr, uB_s, Int.add_zero, Int.reduceAdd]
        have f103 : m' 103 = ivl (m 99) (m 103) 0 24 := by rw [hm1.1 103 (by omega) (by omega)]; simp (disch := omega) only [sA_same, sA_ne, sA_sA, sA_sr, sB_s, ud_eq, ud_ne, ud_ud, ud_sr, uB_s, Int.add_zero, Int.reduceAdd]
        have fo : ∀ a : Int, a < 81 ∨ 81 < a → a < 95 ∨ 103 < a → m' a = m a := fun a p q => by rw [hm1.1 a (by omega) (by omega)]; simp (disch := omega) only [sA_same, sA_ne, sA_sA, sA_sr, sB_s, ud_eq, ud_ne, ud_ud, ud_sr, uB_s, Int.add_zero, Int.reduceAdd]
        have fk : ∀ k : Int, k < 29 ∨ 31 < k → k ≠ 22 → m' 81 k = m 81 k := fun k p q => by rw [hm1.2.1 k (by omega) (by omega) (by omega)]; simp (disch := omega) only [sA_same, sA_ne, sA_sA, sA_sr, sB_s, ud_eq, ud_ne, ud_ud, ud_sr, uB_s, Int.add_zero, Int.reduceAdd]
        refine q_eqI (o1 _ ?_) ?_
        · obtain ⟨h1, h2, c1, c2, c3, c4, c5, c6⟩ := hm1
          refine ⟨fun a p q => by simp (disch := omega) only [sA_ne]; exact fo a p q, fun k p => ?_, ⟨?_, ?_, ?_, ?_, ?_, ?_, ?_, ?_⟩, fun s p q => ?_⟩
          · simp (disch := omega) only [sA_ne, sA_same]
            by_cases hk : k = 22
            · rw [hk, ud_eq]; exact f31
            · rw [ud_ne hk]; exact fk k p hk
          · simp (disch := omega) only [sA_ne, sA_same]; rw [f103]; exact bl_ivl (bl_ivl b1 b8 _ _) c1 _ _
          · simp (disch := omega) only [sA_ne, sA_same]; rw [f102]; exact pgs_ivl (pgs_ivl b2 b7 _ _) c2 _ _
          · simp (disch := omega) only [sA_ne, sA_same]; exact c3
          · simp (disch := omega) only [sA_ne, sA_same]; exact c4
          · simp (disch := omega) only [sA_ne, sA_same]; exact c5
          · simp (disch := omega) only [sA_ne, sA_same]; exact c6
          · simp (disch := omega) only [sA_ne, sA_same]; rw [f102]; exact pgs_ivl b2 b7 _ _
          · simp (disch := omega) only [sA_ne, sA_same]; rw [f103]; exact bl_ivl b1 b8 _ _
          · simp (disch := omega) only [sA_ne, sA_same]; rw [f102, f103]; exact pkA_iv p q
        · unfold DN
          rw [if_pos (by omega), hD]
          first
          | (rw [if_pos (by omega)]; exact (rtF_congr (fun s q1 q2 => hm4 s q1 q2)).symm)
          | (rw [if_neg (by omega)]; exact (swF_congr (fun s q1 q2 => hm4 s q1 q2) 99).symm)
      · refine v_aload_n (n := 42) xB_192 dX11_done_41 rfl rfl ?_
        refine v_call_v (n := 45) xB_192 dX11_done_42 xO_192 iv_11_318 rfl (sh_81 _ _ _) rfl rfl rfl ?_
        refine c_right (by omega) (by first | omega | (simp only [sA_same, sA_s, ud_s, Int.reduceEq, if_true, if_false, ite_true, ite_false, ↓reduceIte, and_true, true_and, eq_self, Int.add_zero, Int.reduceAdd]; omega) | (simp (disch := omega) only [sA_same, sA_ne, ud_eq, ud_ne, Int.add_zero, Int.reduceAdd]; omega)) hA1 hA2 ?_
        refine v_goto (t := 54) xB_192 dX11_done_45 (by decide) rfl ?_
        refine v_istore_n2 (n := 55) xB_192 dX11_done_54 rfl rfl ?_
        refine v_aload_n (n := 56) xB_192 dX11_done_55 rfl rfl ?_
        refine v_call_v (n := 59) xB_192 dX11_done_56 xO_192 iv_11_352 rfl (sh_81 _ _ _) rfl rfl rfl ?_
        refine c_putBack (by omega) hRm.2.2.2.1.2.2.2.2.2.2.2 ?_
        refine v_iload_n (n := 60) xB_192 dX11_done_59 rfl rfl ?_
        refine v_ireturn0 xB_192 dX11_done_60 xK_192 ?_
        have hD : (DF m CF) = (m' 81 22, (DF m CF).2) := by unfold DF; rw [hm3]
        have f31 : m' 81 31 = m 81 22 := by rw [hm1.2.1 31 (by omega) (by omega) (by omega)]; simp (disch := omega) only [sA_same, sA_ne, sA_sA, sA_sr, sB_s, ud_eq, ud_ne, ud_ud, ud_sr, uB_s, Int.add_zero, Int.reduceAdd]
        have f102 : m' 102 = ivl (m 96) (m 102) 0 24 := by rw [hm1.1 102 (by omega) (by omega)]; simp (disch := omega) only [sA_same, sA_ne, sA_sA, sA_sr, sB_s, ud_eq, ud_ne, ud_ud, ud_sr, uB_s, Int.add_zero, Int.reduceAdd]
        have f103 : m' 103 = ivl (m 99) (m 103) 0 24 := by rw [hm1.1 103 (by omega) (by omega)]; simp (disch := omega) only [sA_same, sA_ne, sA_sA, sA_sr, sB_s, ud_eq, ud_ne, ud_ud, ud_sr, uB_s, Int.add_zero, Int.reduceAdd]
        have fo : ∀ a : Int, a < 81 ∨ 81 < a → a < 95 ∨ 103 < a → m' a = m a := fun a p q => by rw [hm1.1 a (by omega) (by omega)]; simp (disch := omega) only [sA_same, sA_ne, sA_sA, sA_sr, sB_s, ud_eq, ud_ne, ud_ud, ud_sr, uB_s, Int.add_zero, Int.reduceAdd]
        have fk : ∀ k : Int, k < 29 ∨ 31 < k → k ≠ 22 → m' 81 k = m 81 k := fun k p q => by rw [hm1.2.1 k (by omega) (by omega) (by omega)]; simp (disch := omega) only [sA_same, sA_ne, sA_sA, sA_sr, sB_s, ud_eq, ud_ne, ud_ud, ud_sr, uB_s, Int.add_zero, Int.reduceAdd]
        refine q_eqI (o1 _ ?_) ?_
        · obtain ⟨h1, h2, c1, c2, c3, c4, c5, c6⟩ := hm1
          refine ⟨fun a p q => by simp (disch := omega) only [sA_ne]; exact fo a p q, fun k p => ?_, ⟨?_, ?_, ?_, ?_, ?_, ?_, ?_, ?_⟩, fun s p q => ?_⟩
          · simp (disch := omega) only [sA_ne, sA_same]
            by_cases hk : k = 22
            · rw [hk, ud_eq]; exact f31
            · rw [ud_ne hk]; exact fk k p hk
          · simp (disch := omega) only [sA_ne, sA_same]; rw [f103]; exact bl_ivl (bl_ivl b1 b8 _ _) c1 _ _
          · simp (disch := omega) only [sA_ne, sA_same]; rw [f102]; exact pgs_ivl (pgs_ivl b2 b7 _ _) c2 _ _
          · simp (disch := omega) only [sA_ne, sA_same]; exact c3
          · simp (disch := omega) only [sA_ne, sA_same]; exact c4
          · simp (disch := omega) only [sA_ne, sA_same]; exact c5
          · simp (disch := omega) only [sA_ne, sA_same]; exact c6
          · simp (disch := omega) only [sA_ne, sA_same]; rw [f102]; exact pgs_ivl b2 b7 _ _
          · simp (disch := omega) only [sA_ne, sA_same]; rw [f103]; exact bl_ivl b1 b8 _ _
          · simp (disch := omega) only [sA_ne, sA_same]; rw [f102, f103]; exact pkA_iv p q
        · unfold DN
          rw [if_pos (by omega), hD]
          first
          | (rw [if_pos (by omega)]; exact (rtF_congr (fun s q1 q2 => hm4 s q1 q2)).symm)
          | (rw [if_neg (by omega)]; exact (swF_congr (fun s q1 q2 => hm4 s q1 q2) 99).symm)
    · intro k m' h1 h2 hm ih
      show V d 192 (18, ([some (.inr (.inr 81)), some (.inl x), some (.inl (k))], ([], (m', (none, (dy, L)))))) Q
      obtain ⟨hm1, hm2, hm3, hm4⟩ := hm
      have e37 : m' 81 37 = m 81 37 := by rw [hm1.2.1 37 (by omega) (by omega) (by omega)]; simp (disch := omega) only [sA_same, sA_ne, sA_sA, sA_sr, sB_s, ud_eq, ud_ne, ud_ud, ud_sr, uB_s, Int.add_zero, Int.reduceAdd]
      have hRm := RI_p hR1 hm1 hm2
      have hA1 := hRm.2.2.2.1.1
      have hA2 := hRm.2.2.2.1.2.1
      have e106 : m' 106 = m 106 := by rw [hm1.1 106 (by omega) (by omega)]; simp (disch := omega) only [sA_same, sA_ne, sA_sA, sA_sr, sB_s, ud_eq, ud_ne, ud_ud, ud_sr, uB_s, Int.add_zero, Int.reduceAdd]
      have e107 : m' 107 = m 107 := by rw [hm1.1 107 (by omega) (by omega)]; simp (disch := omega) only [sA_same, sA_ne, sA_sA, sA_sr, sB_s, ud_eq, ud_ne, ud_ud, ud_sr, uB_s, Int.add_zero, Int.reduceAdd]
      have e108 : m' 108 = m 108 := by rw [hm1.1 108 (by omega) (by omega)]; simp (disch := omega) only [sA_same, sA_ne, sA_sA, sA_sr, sB_s, ud_eq, ud_ne, ud_ud, ud_sr, uB_s, Int.add_zero, Int.reduceAdd]
      have e0 : m' 81 0 = m 81 0 := by rw [hm1.2.1 0 (by omega) (by omega) (by omega)]; simp (disch := omega) only [sA_same, sA_ne, sA_sA, sA_sr, sB_s, ud_eq, ud_ne, ud_ud, ud_sr, uB_s, Int.add_zero, Int.reduceAdd]
      have e5 : m' 81 5 = m 81 5 := by rw [hm1.2.1 5 (by omega) (by omega) (by omega)]; simp (disch := omega) only [sA_same, sA_ne, sA_sA, sA_sr, sB_s, ud_eq, ud_ne, ud_ud, ud_sr, uB_s, Int.add_zero, Int.reduceAdd]
      have hok : (m' 106 k = 0 ∧ (0 ≤ m' 107 k ∧ m' 107 k < m' 81 0) ∧ (0 ≤ m' 108 k ∧ m' 108 k < m' 81 5)) ∨ (m' 106 k = 1 ∧ 0 ≤ m' 107 k ∧ m' 107 k ≤ 3) ∨ (m' 106 k = 2 ∧ 1 ≤ m' 107 k ∧ m' 107 k ≤ 12) := by
        rw [e106, e107, e108, e0, e5]; exact hP.2 k h1 h2
      have hpl : plS m' CF = plS m CF := by rw [plS_p hm1]; unfold plS plR RQ; simp (disch := omega) only [sA_same, sA_ne, sA_sA, sA_sr, sB_s, ud_eq, ud_ne, ud_ud, ud_sr, uB_s, Int.add_zero, Int.reduceAdd]
      refine v_iload_n (n := 19) xB_192 dX11_done_18 rfl rfl ?_
      refine v_aload_n (n := 20) xB_192 dX11_done_19 rfl rfl ?_
      refine v_gf_i (n := 23) (kz := 37) xB_192 dX11_done_20 xO_192 fl_11_123 fg_11_37 rfl (sh_81 _ _ _) rfl rfl ?_
      refine v_ic_ge_n (n := 26) xB_192 dX11_done_23 (by decide) rfl (by first | omega | (simp only [sA_same, sA_s, ud_s, Int.reduceEq, if_true, if_false, ite_true, ite_false, ↓reduceIte, and_true, true_and, eq_self, Int.add_zero, Int.reduceAdd]; omega) | (simp (disch := omega) only [sA_same, sA_ne, ud_eq, ud_ne, Int.add_zero, Int.reduceAdd]; omega)) ?_
      refine v_aload_n (n := 27) xB_192 dX11_done_26 rfl rfl ?_
      refine v_iload_n (n := 28) xB_192 dX11_done_27 rfl rfl ?_
      refine v_call_v (n := 31) xB_192 dX11_done_28 xO_192 iv_11_383 rfl (sh_81 _ _ _) rfl rfl rfl ?_
      refine c_goPlan (by omega) hRm (by first | omega | (simp only [sA_same, sA_s, ud_s, Int.reduceEq, if_true, if_false, ite_true, ite_false, ↓reduceIte, and_true, true_and, eq_self, Int.add_zero, Int.reduceAdd]; omega) | (simp (disch := omega) only [sA_same, sA_ne, ud_eq, ud_ne, Int.add_zero, Int.reduceAdd]; omega)) hok (fun mA hA g62 g63 => ?_)
      rw [hpl] at g62 g63
      have hS : (itN (plS m CF) k.toNat (m 81 22, pc m)) = (m' 81 22, (itN (plS m CF) k.toNat (m 81 22, pc m)).2) := by rw [hm3]
      have g64 : mA 81 22 = (itN (plS m CF) (k + 1).toNat (m 81 22, pc m)).1 := by rw [g62, itN_s h1, hS]; exact pl_fst _ _ _ _ _ _ _ _
      have hm5 : RFp (setA (setA (setA m 81 (ud (m 81) 31 (m 81 22))) 102 (ivl (m 96) (m 102) 0 24)) 103 (ivl (m 99) (m 103) 0 24)) (mA) ∧ (0 ≤ (mA) 81 22 ∧ (mA) 81 22 ≤ 12) ∧ (mA) 81 22 = (itN (plS m CF) (k + 1).toNat (m 81 22, pc m)).1 ∧ (∀ s, 0 ≤ s → s < (mA) 81 22 → pkA ((mA) 96) ((mA) 99) s = (itN (plS m CF) (k + 1).toNat (m 81 22, pc m)).2 s) := ⟨RFp_trans hm1 hA, by rw [g62, ← hpl]; unfold plS; exact pl_in hok hm2, g64, fun s q1 q2 => by
        rw [g63 s q1 q2, itN_s h1, hS]
        unfold plS
        rw [g62] at q2
        exact pl_congr hm4 q1 q2⟩
      refine v_iinc2 (n := 34) xB_192 dX11_done_31 rfl (by first | omega | (simp only [sA_same, sA_s, ud_s, Int.reduceEq, if_true, if_false, ite_true, ite_false, ↓reduceIte, and_true, true_and, eq_self, Int.add_zero, Int.reduceAdd]; omega) | (simp (disch := omega) only [sA_same, sA_ne, ud_eq, ud_ne, Int.add_zero, Int.reduceAdd]; omega)) rfl ?_
      refine v_goto (t := 18) xB_192 dX11_done_34 (by decide) rfl ?_
      exact ih _ hm5
    · refine ⟨⟨fun _ _ _ => rfl, fun _ _ _ _ => rfl, ?_⟩, ?_, ?_, ?_⟩
      · simp (disch := omega) only [sA_same, sA_ne, sA_sA, sA_sr, sB_s, ud_eq, ud_ne, ud_ud, ud_sr, uB_s, Int.add_zero, Int.reduceAdd]; exact ⟨b1, b2, b3, b4, b5, b6⟩
      · simp (disch := omega) only [sA_same, sA_ne, sA_sA, sA_sr, sB_s, ud_eq, ud_ne, ud_ud, ud_sr, uB_s, Int.add_zero, Int.reduceAdd]; exact s1
      · simp (disch := omega) only [sA_same, sA_ne, sA_sA, sA_sr, sB_s, ud_eq, ud_ne, ud_ud, ud_sr, uB_s, Int.add_zero, Int.reduceAdd]; rw [itN_0]
      · intro s q1 q2
        simp (disch := omega) only [sA_same, sA_ne, sA_sA, sA_sr, sB_s, ud_eq, ud_ne, ud_ud, ud_sr, uB_s, Int.add_zero, Int.reduceAdd] at q2 ⊢
        rw [itN_0]
        exact (pc_at s1 q1 q2).symm
  · (try simp (disch := omega) only [sA_same, sA_ne, sA_sA, sA_sr, sB_s, ud_eq, ud_ne, ud_ud, ud_sr, uB_s, Int.add_zero, Int.reduceAdd] at g2)
    refine v_if_ne_n (n := 10) xB_192 dX11_done_7 (by decide) rfl (by decide) ?_
    refine v_iconst (n := 11) xB_192 dX11_done_10 ⟨by decide, by decide⟩ rfl ?_
    refine v_ireturn0 xB_192 dX11_done_11 xK_192 ?_
    refine q_eqI (o1 _ (RI_refl hR0)) ?_
    unfold DN
    rw [if_neg (by omega)]
theorem PlP {m0 m : PM} {dy : List (Nat × Nat)} (h : Inv m0 m dy) : ((0 ≤ m 81 37 ∧ m 81 37 ≤ 6) ∧ (∀ k, 0 ≤ k → k < m 81 37 → (m 106 k = 0 ∧ (0 ≤ m 107 k ∧ m 107 k < m 81 0) ∧ (0 ≤ m 108 k ∧ m 108 k < m 81 5)) ∨ (m 106 k = 1 ∧ 0 ≤ m 107 k ∧ m 107 k ≤ 3) ∨ (m 106 k = 2 ∧ 1 ≤ m 107 k ∧ m 107 k ≤ 12))) := by
  obtain ⟨p1, p2, p3⟩ := h.2.2.2.2.1
  refine ⟨p1, fun k a b => ?_⟩
  obtain ⟨r1, r2, r3, r4⟩ := p3 k a b
  rw [r1, r2, r3]
  rcases r4 with r | r | r
  · left; rw [if_pos r.1]; exact r
  · right; left; exact r
  · right; right; exact r
theorem p_done (m0 : PM) (L : Nat) (x : Int) : PairI m0 L 103 192 [.inr (.inr 0), .inl x] [.inr (.inr 81), .inl x] := PairI_q (A := fun m CF => DN m CF x) (fun m dy CF hI hJ d Q hd h => k_done (by omega) hI hJ h) (fun m dy CF hI hJ d Q hd h => c_done (by omega) (RI_of hI hJ) (PlP hI) h) (fun m m' CF h => by rw [DN_AE h])
