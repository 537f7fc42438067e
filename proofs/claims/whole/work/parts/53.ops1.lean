/-! The class against the reference, call by call: trays, the text, the stack. -/
def PairI (m0 : PM) (L μx μm : Nat) (ax am : List PV) : Prop := ∀ (m : PM) (dy : List (Nat × Nat)), Inv m0 m dy → ∀ (D : Nat) (W : Option PV → PS → Prop), 60 ≤ D → (∀ (v : Int) (m1 : PM) (dy1 : List (Nat × Nat)), (∀ (D2 : Nat) (W2 : Option PV → PS → Prop), 60 ≤ D2 → (∀ m2, Inv m0 m2 dy1 → W2 (some (.inl v)) (m2, (none, (dy1, L)))) → C D2 μm am (m1, (none, (dy1, L))) W2) → W (some (.inl v)) (m1, (none, (dy1, L)))) → C D μx ax (m, (none, (dy, L))) W
def PairL (m0 : PM) (L μx μm : Nat) (ax am : List PV) : Prop := ∀ (m : PM) (dy : List (Nat × Nat)), Inv m0 m dy → ∀ (D : Nat) (W : Option PV → PS → Prop), 60 ≤ D → (∀ (v : Int) (m1 : PM) (dy1 : List (Nat × Nat)), (∀ (D2 : Nat) (W2 : Option PV → PS → Prop), 60 ≤ D2 → (∀ m2, Inv m0 m2 dy1 → W2 (some (.inr (.inl v))) (m2, (none, (dy1, L)))) → C D2 μm am (m1, (none, (dy1, L))) W2) → W (some (.inr (.inl v))) (m1, (none, (dy1, L)))) → C D μx ax (m, (none, (dy, L))) W
set_option maxHeartbeats 2000000 in
theorem p_of (m0 : PM) (L : Nat) (t w : Int)  : PairI m0 L 74 123 [.inr (.inr 0), .inl t, .inl w] [.inr (.inr 81), .inl t, .inl w] := by
  intro m dy h D W hD hW
  have h0 := h
  obtain ⟨hSt, hSc, hTr, hSe, hPl, hBo, hIm, hHm, hTx, hAc, hTp, hJb, hCo⟩ := h
  have t1 := hTr.1
  have t2 := hTr.2.1
  have t3 : 0 ≤ t → t < 5 → _ := hTr.2.2.2 t
  refine C_go (k := 55) (by omega) xL_74 (fun d hd => ?_)
  show V d 74 (0, ([some (.inr (.inr 0)), some (.inl t), some (.inl w)], ([], (m, (none, (dy, L)))))) W
  refine v_aload_n (n := 1) xB_74 dX10_of_0 rfl rfl ?_
  refine v_iload_n (n := 2) xB_74 dX10_of_1 rfl rfl ?_
  refine v_call_v (n := 5) xB_74 dX10_of_2 xO_74 iv_10_96 rfl (sh_0 _ _ _) rfl rfl rfl ?_
  refine k_isTray (by omega) (by first | omega | (simp only [sA_same, sA_s, ud_s, Int.reduceEq, if_true, if_false, ite_true, ite_false, ↓reduceIte, and_true, true_and, eq_self, Int.add_zero, Int.reduceAdd]; omega) | (simp (disch := omega) only [sA_same, sA_ne, ud_eq, ud_ne, Int.add_zero, Int.reduceAdd]; omega)) (fun g1 => ?_) (fun g2 => ?_)
  · refine v_if_ne_y (t := 10) xB_74 dX10_of_5 (by decide) rfl (by decide) ?_
    refine v_iload_n (n := 11) xB_74 dX10_of_10 rfl rfl ?_
    refine v_tsw xB_74 dX10_of_11 rfl ?_
    refine ts_c (lo' := 1) rfl (fun g3 => ?_) (fun g3 => ?_)
    · refine jm_go (t := 36) (by decide) rfl ?_
      refine v_aload_n (n := 37) xB_74 dX10_of_36 rfl rfl ?_
      refine v_gf_s (n := 40) (kz := 0) xB_74 dX10_of_37 xO_74 fl_10_12 fg_10_0 (sh_0 _ _ _) rfl st_0_0 rfl ?_
      refine v_gf_s (n := 43) (kz := 1) xB_74 dX10_of_40 xO_74 fl_10_86 fg_6_1 (sh_1 _ _ _) rfl st_1_1 rfl ?_
      refine v_iload_n (n := 44) xB_74 dX10_of_43 rfl rfl ?_
      refine v_aald_s (n := 45) (lz := 5) xB_74 dX10_of_44 (sh_4 _ _ _) (by decide) rfl (by first | omega | (simp only [sA_same, sA_s, ud_s, Int.reduceEq, if_true, if_false, ite_true, ite_false, ↓reduceIte, and_true, true_and, eq_self, Int.add_zero, Int.reduceAdd]; omega) | (simp (disch := omega) only [sA_same, sA_ne, ud_eq, ud_ne, Int.add_zero, Int.reduceAdd]; omega)) (st_T (by omega)) rfl ?_
      refine v_gf_i (n := 48) (kz := 0) xB_74 dX10_of_45 xO_74 fl_10_99 fg_9_0 rfl (sh_T (by first | omega | (simp only [sA_same, sA_s, ud_s, Int.reduceEq, if_true, if_false, ite_true, ite_false, ↓reduceIte, and_true, true_and, eq_self, Int.add_zero, Int.reduceAdd]; omega) | (simp (disch := omega) only [sA_same, sA_ne, ud_eq, ud_ne, Int.add_zero, Int.reduceAdd]; omega)) _ _ _) rfl rfl ?_
      refine v_ireturn0 xB_74 dX10_of_48 xK_74 ?_
      first | rw [(t3 (by omega) (by omega)).1] | rw [(t3 (by omega) (by omega)).2.1] | rw [(t3 (by omega) (by omega)).2.2.1] | skip
      refine hW _ _ _ (fun D2 W2 hD2 hW2 => ?_)
      refine c_of (by omega) t1 (fun gg => ?_) (fun gg => ?_) (fun gg => ?_) (fun gg => ?_)
      all_goals (try simp (disch := omega) only [sA_same, sA_ne, ud_eq, ud_ne] at gg)
      all_goals first | (exfalso; omega) | exact hW2 _ h0 | ((try simp (disch := omega) only [sA_same, sA_ne, sA_sA, sA_sr, sB_s, ud_eq, ud_ne, ud_ud, ud_sr, uB_s, Int.add_zero, Int.reduceAdd]); refine hW2 _ ?_; exact h0)
    refine ts_c (lo' := 2) rfl (fun g4 => ?_) (fun g4 => ?_)
    · refine jm_go (t := 49) (by decide) rfl ?_
      refine v_aload_n (n := 50) xB_74 dX10_of_49 rfl rfl ?_
      refine v_gf_s (n := 53) (kz := 0) xB_74 dX10_of_50 xO_74 fl_10_12 fg_10_0 (sh_0 _ _ _) rfl st_0_0 rfl ?_
      refine v_gf_s (n := 56) (kz := 1) xB_74 dX10_of_53 xO_74 fl_10_86 fg_6_1 (sh_1 _ _ _) rfl st_1_1 rfl ?_
      refine v_iload_n (n := 57) xB_74 dX10_of_56 rfl rfl ?_
      refine v_aald_s (n := 58) (lz := 5) xB_74 dX10_of_57 (sh_4 _ _ _) (by decide) rfl (by first | omega | (simp only [sA_same, sA_s, ud_s, Int.reduceEq, if_true, if_false, ite_true, ite_false, ↓reduceIte, and_true, true_and, eq_self, Int.add_zero, Int.reduceAdd]; omega) | (simp (disch := omega) only [sA_same, sA_ne, ud_eq, ud_ne, Int.add_zero, Int.reduceAdd]; omega)) (st_T (by omega)) rfl ?_
      refine v_gf_i (n := 61) (kz := 1) xB_74 dX10_of_58 xO_74 fl_10_102 fg_9_1 rfl (sh_T (by first | omega | (simp only [sA_same, sA_s, ud_s, Int.reduceEq, if_true, if_false, ite_true, ite_false, ↓reduceIte, and_true, true_and, eq_self, Int.add_zero, Int.reduceAdd]; omega) | (simp (disch := omega) only [sA_same, sA_ne, ud_eq, ud_ne, Int.add_zero, Int.reduceAdd]; omega)) _ _ _) rfl rfl ?_
      refine v_ireturn0 xB_74 dX10_of_61 xK_74 ?_
      first | rw [(t3 (by omega) (by omega)).1] | rw [(t3 (by omega) (by omega)).2.1] | rw [(t3 (by omega) (by omega)).2.2.1] | skip
      refine hW _ _ _ (fun D2 W2 hD2 hW2 => ?_)
      refine c_of (by omega) t1 (fun gg => ?_) (fun gg => ?_) (fun gg => ?_) (fun gg => ?_)
      all_goals (try simp (disch := omega) only [sA_same, sA_ne, ud_eq, ud_ne] at gg)
      all_goals first | (exfalso; omega) | exact hW2 _ h0 | ((try simp (disch := omega) only [sA_same, sA_ne, sA_sA, sA_sr, sB_s, ud_eq, ud_ne, ud_ud, ud_sr, uB_s, Int.add_zero, Int.reduceAdd]); refine hW2 _ ?_; exact h0)
    refine ts_c (lo' := 3) rfl (fun g5 => ?_) (fun g5 => ?_)
    · refine jm_go (t := 62) (by decide) rfl ?_
      refine v_aload_n (n := 63) xB_74 dX10_of_62 rfl rfl ?_
      refine v_gf_s (n := 66) (kz := 0) xB_74 dX10_of_63 xO_74 fl_10_12 fg_10_0 (sh_0 _ _ _) rfl st_0_0 rfl ?_
      refine v_gf_s (n := 69) (kz := 1) xB_74 dX10_of_66 xO_74 fl_10_86 fg_6_1 (sh_1 _ _ _) rfl st_1_1 rfl ?_
      refine v_iload_n (n := 70) xB_74 dX10_of_69 rfl rfl ?_
      refine v_aald_s (n := 71) (lz := 5) xB_74 dX10_of_70 (sh_4 _ _ _) (by decide) rfl (by first | omega | (simp only [sA_same, sA_s, ud_s, Int.reduceEq, if_true, if_false, ite_true, ite_false, ↓reduceIte, and_true, true_and, eq_self, Int.add_zero, Int.reduceAdd]; omega) | (simp (disch := omega) only [sA_same, sA_ne, ud_eq, ud_ne, Int.add_zero, Int.reduceAdd]; omega)) (st_T (by omega)) rfl ?_
      refine v_gf_i (n := 74) (kz := 2) xB_74 dX10_of_71 xO_74 fl_10_105 fg_9_2 rfl (sh_T (by first | omega | (simp only [sA_same, sA_s, ud_s, Int.reduceEq, if_true, if_false, ite_true, ite_false, ↓reduceIte, and_true, true_and, eq_self, Int.add_zero, Int.reduceAdd]; omega) | (simp (disch := omega) only [sA_same, sA_ne, ud_eq, ud_ne, Int.add_zero, Int.reduceAdd]; omega)) _ _ _) rfl rfl ?_
      refine v_ireturn0 xB_74 dX10_of_74 xK_74 ?_
      first | rw [(t3 (by omega) (by omega)).1] | rw [(t3 (by omega) (by omega)).2.1] | rw [(t3 (by omega) (by omega)).2.2.1] | skip
      refine hW _ _ _ (fun D2 W2 hD2 hW2 => ?_)
      refine c_of (by omega) t1 (fun gg => ?_) (fun gg => ?_) (fun gg => ?_) (fun gg => ?_)
      all_goals (try simp (disch := omega) only [sA_same, sA_ne, ud_eq, ud_ne] at gg)
      all_goals first | (exfalso; omega) | exact hW2 _ h0 | ((try simp (disch := omega) only [sA_same, sA_ne, sA_sA, sA_sr, sB_s, ud_eq, ud_ne, ud_ud, ud_sr, uB_s, Int.add_zero, Int.reduceAdd]); refine hW2 _ ?_; exact h0)
    refine ts_n ?_
    refine jm_go (t := 75) (by decide) rfl ?_
    refine v_iconst (n := 76) xB_74 dX10_of_75 ⟨by decide, by decide⟩ rfl ?_
    refine v_ireturn0 xB_74 dX10_of_76 xK_74 ?_
    first | rw [(t3 (by omega) (by omega)).1] | rw [(t3 (by omega) (by omega)).2.1] | rw [(t3 (by omega) (by omega)).2.2.1] | skip
    refine hW _ _ _ (fun D2 W2 hD2 hW2 => ?_)
    refine c_of (by omega) t1 (fun gg => ?_) (fun gg => ?_) (fun gg => ?_) (fun gg => ?_)
    all_goals (try simp (disch := omega) only [sA_same, sA_ne, ud_eq, ud_ne] at gg)
    all_goals first | (exfalso; omega) | exact hW2 _ h0 | ((try simp (disch := omega) only [sA_same, sA_ne, sA_sA, sA_sr, sB_s, ud_eq, ud_ne, ud_ud, ud_sr, uB_s, Int.add_zero, Int.reduceAdd]); refine hW2 _ ?_; exact h0)
  · refine v_if_ne_n (n := 8) xB_74 dX10_of_5 (by decide) rfl (by decide) ?_
    refine v_iconst (n := 9) xB_74 dX10_of_8 ⟨by decide, by decide⟩ rfl ?_
    refine v_ireturn0 xB_74 dX10_of_9 xK_74 ?_
    first | rw [(t3 (by omega) (by omega)).1] | rw [(t3 (by omega) (by omega)).2.1] | rw [(t3 (by omega) (by omega)).2.2.1] | skip
    refine hW _ _ _ (fun D2 W2 hD2 hW2 => ?_)
    refine c_of (by omega) t1 (fun gg => ?_) (fun gg => ?_) (fun gg => ?_) (fun gg => ?_)
    all_goals (try simp (disch := omega) only [sA_same, sA_ne, ud_eq, ud_ne] at gg)
    all_goals first | (exfalso; omega) | exact hW2 _ h0 | ((try simp (disch := omega) only [sA_same, sA_ne, sA_sA, sA_sr, sB_s, ud_eq, ud_ne, ud_ud, ud_sr, uB_s, Int.add_zero, Int.reduceAdd]); refine hW2 _ ?_; exact h0)
theorem whF_congr {N : Int} {c e : Int → Int} (h : ∀ s, 0 ≤ s → s < N → c s = e s) (g : Int) : whF N c g = whF N e g := by
  unfold whF
  have key : ∀ (f : Nat) (k : Int), 0 ≤ k → k + f ≤ 2 * N → fs (fun k => decide (pgk c k = g)) (fun k => 10 * (k / 2) + k % 2) f k = fs (fun k => decide (pgk e k = g)) (fun k => 10 * (k / 2) + k % 2) f k := by
    intro f
    induction f with
    | zero => intro k _ _; rfl
    | succ f ih =>
      intro k h1 h2
      have e1 : pgk c k = pgk e k := by unfold pgk; rw [h (k / 2) (by omega) (by omega)]
      rw [fs, fs]
      rw [e1, ih (k + 1) (by omega) (by omega)]
  by_cases hN : 0 ≤ N
  · exact key _ 0 (by omega) (by omega)
  · rw [show (2 * N).toNat = 0 by omega]; rfl
set_option maxHeartbeats 2000000 in
theorem p_find (m0 : PM) (L : Nat) (g : Int)  : PairI m0 L 93 179 [.inr (.inr 0), .inl g] [.inr (.inr 81), .inl g] := by
  intro m dy h D W hD hW
  have h0 := h
  obtain ⟨hSt, hSc, hTr, hSe, hPl, hBo, hIm, hHm, hTx, hAc, hTp, hJb, hCo⟩ := h
  have s1 := hSt.1
  have s2 := hSt.2.1
  have s3 : whF (m 2 1) (m 3) g = whF (m 81 22) (pkA (m 96) (m 99)) g := by rw [s2]; exact whF_congr hSt.2.2.2.2.2 g
  refine C_go (k := 55) (by omega) xL_93 (fun d hd => ?_)
  show V d 93 (0, ([some (.inr (.inr 0)), some (.inl g)], ([], (m, (none, (dy, L)))))) W
  refine v_iload_n (n := 1) xB_93 dX10_find_0 rfl rfl ?_
  refine v_iconst (n := 2) xB_93 dX10_find_1 ⟨by decide, by decide⟩ rfl ?_
  refine v_bipush (n := 4) xB_93 dX10_find_2 ⟨by decide, by decide⟩ rfl ?_
  refine v_call_s (n := 7) xB_93 dX10_find_4 xO_93 sp_10_69 (Or.inl rfl) iv_10_69 rfl rfl rfl rfl ?_
  refine k_isWithin (by omega)  (fun g1 => ?_) (fun g2 => ?_)
  · refine v_if_eq_n (n := 10) xB_93 dX10_find_7 (by decide) rfl (by decide) ?_
    refine v_aload_n (n := 11) xB_93 dX10_find_10 rfl rfl ?_
    refine v_gf_s (n := 14) (kz := 0) xB_93 dX10_find_11 xO_93 fl_10_12 fg_10_0 (sh_0 _ _ _) rfl st_0_0 rfl ?_
    refine v_gf_s (n := 17) (kz := 0) xB_93 dX10_find_14 xO_93 fl_10_76 fg_6_0 (sh_1 _ _ _) rfl st_1_0 rfl ?_
    refine v_iload_n (n := 18) xB_93 dX10_find_17 rfl rfl ?_
    refine v_call_v (n := 21) xB_93 dX10_find_18 xO_93 iv_10_201 rfl (sh_2 _ _ _) rfl rfl rfl ?_
    refine k_whereIs (by omega) (Or.inl rfl) (by rw [s2]; exact s1) hSt.2.2.1 ?_
    refine v_goto (t := 26) xB_93 dX10_find_21 (by decide) rfl ?_
    refine v_ireturn0 xB_93 dX10_find_26 xK_93 ?_
    first | rw [show (2 : Int) + 1 = 3 from rfl, s3] | skip
    refine hW _ _ _ (fun D2 W2 hD2 hW2 => ?_)
    refine c_find (by omega) hSt.1 hSt.2.2.2.1 hSt.2.2.2.2.1 (fun gg => ?_) (fun gg => ?_)
    all_goals (try simp (disch := omega) only [sA_same, sA_ne, ud_eq, ud_ne] at gg)
    all_goals first | (exfalso; omega) | exact hW2 _ h0 | ((try simp (disch := omega) only [sA_same, sA_ne, sA_sA, sA_sr, sB_s, ud_eq, ud_ne, ud_ud, ud_sr, uB_s, Int.add_zero, Int.reduceAdd]); refine hW2 _ ?_; exact h0)
  · refine v_if_eq_y (t := 24) xB_93 dX10_find_7 (by decide) rfl (by decide) ?_
    refine v_bipush (n := 26) xB_93 dX10_find_24 ⟨by decide, by decide⟩ rfl ?_
    refine v_ireturn0 xB_93 dX10_find_26 xK_93 ?_
    first | rw [show (2 : Int) + 1 = 3 from rfl, s3] | skip
    refine hW _ _ _ (fun D2 W2 hD2 hW2 => ?_)
    refine c_find (by omega) hSt.1 hSt.2.2.2.1 hSt.2.2.2.2.1 (fun gg => ?_) (fun gg => ?_)
    all_goals (try simp (disch := omega) only [sA_same, sA_ne, ud_eq, ud_ne] at gg)
    all_goals first | (exfalso; omega) | exact hW2 _ h0 | ((try simp (disch := omega) only [sA_same, sA_ne, sA_sA, sA_sr, sB_s, ud_eq, ud_ne, ud_ud, ud_sr, uB_s, Int.add_zero, Int.reduceAdd]); refine hW2 _ ?_; exact h0)
