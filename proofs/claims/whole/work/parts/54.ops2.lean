/-! The class against the reference, call by call: what changes trays, the text, the stack. -/
set_option maxHeartbeats 2000000 in
theorem p_told (m0 : PM) (L : Nat) (w : Int)  : PairI m0 L 82 163 [.inr (.inr 0), .inl w] [.inr (.inr 81), .inl w] := by
  intro m dy h D W hD hW
  have h0 := h
  obtain ⟨hSt, hSc, hTr, hSe, hPl, hBo, hIm, hHm, hTx, hAc, hTp, hJb, hCo⟩ := h
  have s1 := hSt.1
  have s2 := hSt.2.1
  have r1 : rtF (m 2 1) (m 3) = rtF (m 81 22) (pkA (m 96) (m 99)) := by rw [s2]; exact rtF_congr hSt.2.2.2.2.2
  have r2 : ∀ p, swF (m 2 1) (m 3) p = swF (m 81 22) (pkA (m 96) (m 99)) p := fun p => by rw [s2]; exact swF_congr hSt.2.2.2.2.2 p
  have r3 : swF (m 2 1) (m 3) = swF (m 81 22) (pkA (m 96) (m 99)) := funext r2
  refine C_go (k := 55) (by omega) xL_82 (fun d hd => ?_)
  show V d 82 (0, ([some (.inr (.inr 0)), some (.inl w)], ([], (m, (none, (dy, L)))))) W
  refine v_iload_n (n := 1) xB_82 dX10_told_0 rfl rfl ?_
  refine v_tsw xB_82 dX10_told_1 rfl ?_
  refine ts_c (lo' := 1) rfl (fun g1 => ?_) (fun g1 => ?_)
  · refine jm_go (t := 32) (by decide) rfl ?_
    refine v_aload_n (n := 33) xB_82 dX10_told_32 rfl rfl ?_
    refine v_gf_s (n := 36) (kz := 0) xB_82 dX10_told_33 xO_82 fl_10_12 fg_10_0 (sh_0 _ _ _) rfl st_0_0 rfl ?_
    refine v_gf_s (n := 39) (kz := 0) xB_82 dX10_told_36 xO_82 fl_10_76 fg_6_0 (sh_1 _ _ _) rfl st_1_0 rfl ?_
    refine v_call_v (n := 42) xB_82 dX10_told_39 xO_82 iv_10_138 rfl (sh_2 _ _ _) rfl rfl rfl ?_
    refine k_rights (by omega) (Or.inl rfl) (by rw [s2]; exact s1) hSt.2.2.1 ?_
    refine v_ireturn0 xB_82 dX10_told_42 xK_82 ?_
    first | rw [show (2 : Int) + 1 = 3 from rfl, r1] | rw [show (2 : Int) + 1 = 3 from rfl, r3] | skip
    refine hW _ _ _ (fun D2 W2 hD2 hW2 => ?_)
    refine c_told (by omega) hSt.1 hSt.2.2.2.1 hSt.2.2.2.2.1 (fun gg => ?_) (fun gg => ?_) (fun gg => ?_) (fun gg => ?_) (fun gg => ?_)
    all_goals (try simp (disch := omega) only [sA_same, sA_ne, ud_eq, ud_ne] at gg)
    all_goals first | (exfalso; omega) | exact hW2 _ h0 | ((try simp (disch := omega) only [sA_same, sA_ne, sA_sA, sA_sr, sB_s, ud_eq, ud_ne, ud_ud, ud_sr, uB_s, Int.add_zero, Int.reduceAdd]); refine hW2 _ ?_; exact h0)
  refine ts_c (lo' := 2) rfl (fun g2 => ?_) (fun g2 => ?_)
  · refine jm_go (t := 43) (by decide) rfl ?_
    refine v_aload_n (n := 44) xB_82 dX10_told_43 rfl rfl ?_
    refine v_gf_s (n := 47) (kz := 0) xB_82 dX10_told_44 xO_82 fl_10_12 fg_10_0 (sh_0 _ _ _) rfl st_0_0 rfl ?_
    refine v_gf_s (n := 50) (kz := 0) xB_82 dX10_told_47 xO_82 fl_10_76 fg_6_0 (sh_1 _ _ _) rfl st_1_0 rfl ?_
    refine v_bipush (n := 52) xB_82 dX10_told_50 ⟨by decide, by decide⟩ rfl ?_
    refine v_call_v (n := 55) xB_82 dX10_told_52 xO_82 iv_10_155 rfl (sh_2 _ _ _) rfl rfl rfl ?_
    refine k_sidesWith (by omega) (Or.inl rfl) (by rw [s2]; exact s1) hSt.2.2.1 ?_
    refine v_ireturn0 xB_82 dX10_told_55 xK_82 ?_
    first | rw [show (2 : Int) + 1 = 3 from rfl, r1] | rw [show (2 : Int) + 1 = 3 from rfl, r3] | skip
    refine hW _ _ _ (fun D2 W2 hD2 hW2 => ?_)
    refine c_told (by omega) hSt.1 hSt.2.2.2.1 hSt.2.2.2.2.1 (fun gg => ?_) (fun gg => ?_) (fun gg => ?_) (fun gg => ?_) (fun gg => ?_)
    all_goals (try simp (disch := omega) only [sA_same, sA_ne, ud_eq, ud_ne] at gg)
    all_goals first | (exfalso; omega) | exact hW2 _ h0 | ((try simp (disch := omega) only [sA_same, sA_ne, sA_sA, sA_sr, sB_s, ud_eq, ud_ne, ud_ud, ud_sr, uB_s, Int.add_zero, Int.reduceAdd]); refine hW2 _ ?_; exact h0)
  refine ts_c (lo' := 3) rfl (fun g3 => ?_) (fun g3 => ?_)
  · refine jm_go (t := 56) (by decide) rfl ?_
    refine v_aload_n (n := 57) xB_82 dX10_told_56 rfl rfl ?_
    refine v_gf_s (n := 60) (kz := 0) xB_82 dX10_told_57 xO_82 fl_10_12 fg_10_0 (sh_0 _ _ _) rfl st_0_0 rfl ?_
    refine v_gf_s (n := 63) (kz := 0) xB_82 dX10_told_60 xO_82 fl_10_76 fg_6_0 (sh_1 _ _ _) rfl st_1_0 rfl ?_
    refine v_iconst (n := 64) xB_82 dX10_told_63 ⟨by decide, by decide⟩ rfl ?_
    refine v_call_v (n := 67) xB_82 dX10_told_64 xO_82 iv_10_155 rfl (sh_2 _ _ _) rfl rfl rfl ?_
    refine k_sidesWith (by omega) (Or.inl rfl) (by rw [s2]; exact s1) hSt.2.2.1 ?_
    refine v_ireturn0 xB_82 dX10_told_67 xK_82 ?_
    first | rw [show (2 : Int) + 1 = 3 from rfl, r1] | rw [show (2 : Int) + 1 = 3 from rfl, r3] | skip
    refine hW _ _ _ (fun D2 W2 hD2 hW2 => ?_)
    refine c_told (by omega) hSt.1 hSt.2.2.2.1 hSt.2.2.2.2.1 (fun gg => ?_) (fun gg => ?_) (fun gg => ?_) (fun gg => ?_) (fun gg => ?_)
    all_goals (try simp (disch := omega) only [sA_same, sA_ne, ud_eq, ud_ne] at gg)
    all_goals first | (exfalso; omega) | exact hW2 _ h0 | ((try simp (disch := omega) only [sA_same, sA_ne, sA_sA, sA_sr, sB_s, ud_eq, ud_ne, ud_ud, ud_sr, uB_s, Int.add_zero, Int.reduceAdd]); refine hW2 _ ?_; exact h0)
  refine ts_c (lo' := 4) rfl (fun g4 => ?_) (fun g4 => ?_)
  · refine jm_go (t := 68) (by decide) rfl ?_
    refine v_aload_n (n := 69) xB_82 dX10_told_68 rfl rfl ?_
    refine v_gf_s (n := 72) (kz := 0) xB_82 dX10_told_69 xO_82 fl_10_12 fg_10_0 (sh_0 _ _ _) rfl st_0_0 rfl ?_
    refine v_gf_s (n := 75) (kz := 0) xB_82 dX10_told_72 xO_82 fl_10_76 fg_6_0 (sh_1 _ _ _) rfl st_1_0 rfl ?_
    refine v_call_v (n := 78) xB_82 dX10_told_75 xO_82 iv_10_159 rfl (sh_2 _ _ _) rfl rfl rfl ?_
    refine k_missing (by omega) (Or.inl rfl) (by rw [s2]; exact s1) hSt.2.2.1 ?_
    refine v_ireturn0 xB_82 dX10_told_78 xK_82 ?_
    first | rw [show (2 : Int) + 1 = 3 from rfl, r1] | rw [show (2 : Int) + 1 = 3 from rfl, r3] | skip
    refine hW _ _ _ (fun D2 W2 hD2 hW2 => ?_)
    refine c_told (by omega) hSt.1 hSt.2.2.2.1 hSt.2.2.2.2.1 (fun gg => ?_) (fun gg => ?_) (fun gg => ?_) (fun gg => ?_) (fun gg => ?_)
    all_goals (try simp (disch := omega) only [sA_same, sA_ne, ud_eq, ud_ne] at gg)
    all_goals first | (exfalso; omega) | exact hW2 _ h0 | ((try simp (disch := omega) only [sA_same, sA_ne, sA_sA, sA_sr, sB_s, ud_eq, ud_ne, ud_ud, ud_sr, uB_s, Int.add_zero, Int.reduceAdd]); refine hW2 _ ?_; exact h0)
  refine ts_n ?_
  refine jm_go (t := 79) (by decide) rfl ?_
  refine v_iconst (n := 80) xB_82 dX10_told_79 ⟨by decide, by decide⟩ rfl ?_
  refine v_ireturn0 xB_82 dX10_told_80 xK_82 ?_
  first | rw [show (2 : Int) + 1 = 3 from rfl, r1] | rw [show (2 : Int) + 1 = 3 from rfl, r3] | skip
  refine hW _ _ _ (fun D2 W2 hD2 hW2 => ?_)
  refine c_told (by omega) hSt.1 hSt.2.2.2.1 hSt.2.2.2.2.1 (fun gg => ?_) (fun gg => ?_) (fun gg => ?_) (fun gg => ?_) (fun gg => ?_)
  all_goals (try simp (disch := omega) only [sA_same, sA_ne, ud_eq, ud_ne] at gg)
  all_goals first | (exfalso; omega) | exact hW2 _ h0 | ((try simp (disch := omega) only [sA_same, sA_ne, sA_sA, sA_sr, sB_s, ud_eq, ud_ne, ud_ud, ud_sr, uB_s, Int.add_zero, Int.reduceAdd]); refine hW2 _ ?_; exact h0)
theorem sd_pk {sd dn : Int → Int} (h : pgs sd) (hb : bl dn) (s : Int) : sdF (pkA sd dn s) 0 = sd (2 * s) + 128 * dn (2 * s) ∧ sdF (pkA sd dn s) 1 = sd (2 * s + 1) + 128 * dn (2 * s + 1) := by
  have q1 := h (2 * s); have q2 := h (2 * s + 1); have q3 := hb (2 * s); have q4 := hb (2 * s + 1)
  unfold sdF pkA
  rw [if_pos rfl, if_neg (by omega)]
  omega
theorem pon_pk {sd dn : Int → Int} {N a k : Int} {c : Int → Int} (h : pgs sd) (hb : bl dn) (hc : ∀ s, 0 ≤ s → s < N → c s = pkA sd dn s) (ha : 0 ≤ a ∧ a < N) (hk : k = 0 ∨ k = 1) : ponF N a k c = sd (2 * a + k) := by
  rw [ponF_pgk ha hk]
  have e : pgk c (2 * a + k) = pgk (pkA sd dn) (2 * a + k) := by
    unfold pgk; rw [hc ((2 * a + k) / 2) (by omega) (by omega)]
  rw [e, pgk_pk h hb]
theorem TxR_new {m m2 : PM} {s : Int} (h : TxR m) (hlt : m 81 6 < 100) (hs : 0 ≤ s ∧ s ≤ 127) (e0 : m2 81 6 = m 81 6 + 1) (e1 : m2 53 1 = m 81 6 + 1) (a1 : m2 54 = ud (m 54) (m 81 6) s) (a2 : m2 86 = ud (m 86) (m 81 6) s) : TxR m2 := by
  unfold TxR at *
  rw [e0, e1, a1, a2, h.2.2.1]
  refine ⟨by omega, rfl, rfl, fun i h1 h2 => ?_⟩
  by_cases hi : i = m 81 6
  · subst hi; rw [ud_eq]; omega
  · rw [ud_ne hi]; exact h.2.2.2 i h1 (by omega)
set_option maxHeartbeats 2000000 in
theorem p_feed (m0 : PM) (L : Nat) (s : Int)  : PairI m0 L 76 125 [.inr (.inr 0), .inl s] [.inr (.inr 81), .inl s] := by
  intro m dy h D W hD hW
  have h0 := h
  obtain ⟨hSt, hSc, hTr, hSe, hPl, hBo, hIm, hHm, hTx, hAc, hTp, hJb, hCo⟩ := h
  have t1 := hTx.1
  have t2 := hTx.2.1
  refine C_go (k := 55) (by omega) xL_76 (fun d hd => ?_)
  show V d 76 (0, ([some (.inr (.inr 0)), some (.inl s)], ([], (m, (none, (dy, L)))))) W
  refine v_iload_n (n := 1) xB_76 dX10_feed_0 rfl rfl ?_
  refine v_iconst (n := 2) xB_76 dX10_feed_1 ⟨by decide, by decide⟩ rfl ?_
  refine v_bipush (n := 4) xB_76 dX10_feed_2 ⟨by decide, by decide⟩ rfl ?_
  refine v_call_s (n := 7) xB_76 dX10_feed_4 xO_76 sp_10_69 (Or.inl rfl) iv_10_69 rfl rfl rfl rfl ?_
  refine k_isWithin (by omega)  (fun g1 => ?_) (fun g2 => ?_)
  · (try simp (disch := omega) only [sA_same, sA_ne, sA_sA, sA_sr, sB_s, ud_eq, ud_ne, ud_ud, ud_sr, uB_s, Int.add_zero, Int.reduceAdd] at g1)
    refine v_if_ne_y (t := 13) xB_76 dX10_feed_7 (by decide) rfl (by decide) ?_
    refine v_aload_n (n := 14) xB_76 dX10_feed_13 rfl rfl ?_
    refine v_gf_s (n := 17) (kz := 3) xB_76 dX10_feed_14 xO_76 fl_10_24 fg_10_3 (sh_0 _ _ _) rfl st_0_3 rfl ?_
    refine v_gf_i (n := 20) (kz := 1) xB_76 dX10_feed_17 xO_76 fl_10_112 fg_5_1 rfl (sh_53 _ _ _) rfl rfl ?_
    refine v_bipush (n := 22) xB_76 dX10_feed_20 ⟨by decide, by decide⟩ rfl ?_
    refine v_ic_lt (t := 28) (n := 25) xB_76 dX10_feed_22 (by decide) rfl rfl (fun g3 => ?_) (fun g3 => ?_)
    · (try simp (disch := omega) only [sA_same, sA_ne, sA_sA, sA_sr, sB_s, ud_eq, ud_ne, ud_ud, ud_sr, uB_s, Int.add_zero, Int.reduceAdd] at g3)
      refine v_aload_n (n := 29) xB_76 dX10_feed_28 rfl rfl ?_
      refine v_gf_s (n := 32) (kz := 3) xB_76 dX10_feed_29 xO_76 fl_10_24 fg_10_3 (sh_0 _ _ _) rfl st_0_3 rfl ?_
      refine v_gf_s (n := 35) (kz := 0) xB_76 dX10_feed_32 xO_76 fl_10_113 fg_5_0 (sh_53 _ _ _) rfl st_53_0 rfl ?_
      refine v_aload_n (n := 36) xB_76 dX10_feed_35 rfl rfl ?_
      refine v_gf_s (n := 39) (kz := 3) xB_76 dX10_feed_36 xO_76 fl_10_24 fg_10_3 (sh_0 _ _ _) rfl st_0_3 rfl ?_
      refine v_gf_i (n := 42) (kz := 1) xB_76 dX10_feed_39 xO_76 fl_10_112 fg_5_1 rfl (sh_53 _ _ _) rfl rfl ?_
      refine v_iload_n (n := 43) xB_76 dX10_feed_42 rfl rfl ?_
      refine v_iastore (n := 44) (lz := 100) xB_76 dX10_feed_43 (sh_54 _ _ _) (by decide) rfl (by first | omega | (simp only [sA_same, sA_s, ud_s, Int.reduceEq, if_true, if_false, ite_true, ite_false, ↓reduceIte, and_true, true_and, eq_self, Int.add_zero, Int.reduceAdd]; omega) | (simp (disch := omega) only [sA_same, sA_ne, ud_eq, ud_ne, Int.add_zero, Int.reduceAdd]; omega)) rfl ?_
      (try simp (disch := omega) only [sA_same, sA_ne, sA_sA, sA_sr, sB_s, ud_eq, ud_ne, ud_ud, ud_sr, uB_s, Int.add_zero, Int.reduceAdd])
      refine v_aload_n (n := 45) xB_76 dX10_feed_44 rfl rfl ?_
      refine v_gf_s (n := 48) (kz := 3) xB_76 dX10_feed_45 xO_76 fl_10_24 fg_10_3 (sh_0 _ _ _) rfl st_0_3 rfl ?_
      refine v_dup (n := 49) xB_76 dX10_feed_48 rfl rfl ?_
      refine v_gf_i (n := 52) (kz := 1) xB_76 dX10_feed_49 xO_76 fl_10_112 fg_5_1 rfl (sh_53 _ _ _) rfl rfl ?_
      refine v_iconst (n := 53) xB_76 dX10_feed_52 ⟨by decide, by decide⟩ rfl ?_
      refine v_iadd (n := 54) xB_76 dX10_feed_53 (by first | omega | (simp only [sA_same, sA_s, ud_s, Int.reduceEq, if_true, if_false, ite_true, ite_false, ↓reduceIte, and_true, true_and, eq_self, Int.add_zero, Int.reduceAdd]; omega) | (simp (disch := omega) only [sA_same, sA_ne, ud_eq, ud_ne, Int.add_zero, Int.reduceAdd]; omega)) rfl ?_
      refine v_pf_i (n := 57) (kz := 1) xB_76 dX10_feed_54 xO_76 fl_10_112 fg_5_1 (Or.inl fn_5_1) (sh_53 _ _ _) (by decide) rfl rfl ?_
      (try simp (disch := omega) only [sA_same, sA_ne, sA_sA, sA_sr, sB_s, ud_eq, ud_ne, ud_ud, ud_sr, uB_s, Int.add_zero, Int.reduceAdd])
      refine v_aload_n (n := 58) xB_76 dX10_feed_57 rfl rfl ?_
      refine v_gf_s (n := 61) (kz := 3) xB_76 dX10_feed_58 xO_76 fl_10_24 fg_10_3 (sh_0 _ _ _) rfl st_0_3 rfl ?_
      refine v_gf_i (n := 64) (kz := 1) xB_76 dX10_feed_61 xO_76 fl_10_112 fg_5_1 rfl (sh_53 _ _ _) rfl rfl ?_
      refine v_ireturn0 xB_76 dX10_feed_64 xK_76 ?_
      (try simp (disch := omega) only [sA_same, sA_ne, sA_sA, sA_sr, sB_s, ud_eq, ud_ne, ud_ud, ud_sr, uB_s, Int.add_zero, Int.reduceAdd])
      (try rw [t2])
      refine hW _ _ _ (fun D2 W2 hD2 hW2 => ?_)
      refine c_feed (by omega) (by first | omega | (simp only [sA_same, sA_s, ud_s, Int.reduceEq, if_true, if_false, ite_true, ite_false, ↓reduceIte, and_true, true_and, eq_self, Int.add_zero, Int.reduceAdd]; omega) | (simp (disch := omega) only [sA_same, sA_ne, ud_eq, ud_ne, Int.add_zero, Int.reduceAdd]; omega)) (fun gg => ?_) (fun gg => ?_) (fun gg => ?_)
      all_goals (try simp (disch := omega) only [sA_same, sA_ne, ud_eq, ud_ne] at gg)
      all_goals first | (exfalso; omega) | exact hW2 _ h0 | ((try simp (disch := omega) only [sA_same, sA_ne, sA_sA, sA_sr, sB_s, ud_eq, ud_ne, ud_ud, ud_sr, uB_s, Int.add_zero, Int.reduceAdd]); refine hW2 _ ?_; exact ⟨(StR_fr (fun a q1 q2 => by first | rfl | (simp (disch := omega) only [sA_ne])) (fun a q1 q2 => by first | rfl | (simp (disch := omega) only [sA_ne])) (fun a q1 q2 => by first | rfl | (simp (disch := omega) only [sA_ne])) (by first | rfl | (simp (disch := omega) only [sA_ne, sA_same, ud_ne]))  hSt), (ScR_fr (fun a q1 q2 => by first | rfl | (simp (disch := omega) only [sA_ne])) (fun a q1 q2 => by first | rfl | (simp (disch := omega) only [sA_ne])) (fun a q1 q2 => by first | rfl | (simp (disch := omega) only [sA_ne])) (fun a q1 q2 => by first | rfl | (simp (disch := omega) only [sA_ne])) (fun a q1 q2 => by first | rfl | (simp (disch := omega) only [sA_ne]))   hSc), (TrR_fr (fun a q1 q2 => by first | rfl | (simp (disch := omega) only [sA_ne])) (fun a q1 q2 => by first | rfl | (simp (disch := omega) only [sA_ne])) (by first | rfl | (simp (disch := omega) only [sA_ne, sA_same, ud_ne])) (by first | rfl | (simp (disch := omega) only [sA_ne, sA_same, ud_ne])) hTr), (SeR_fr (fun a q1 q2 => by first | rfl | (simp (disch := omega) only [sA_ne])) (fun a q1 q2 => by first | rfl | (simp (disch := omega) only [sA_ne])) (by first | rfl | (simp (disch := omega) only [sA_ne, sA_same, ud_ne]))  hSe), (PlR_fr (fun a q1 q2 => by first | rfl | (simp (disch := omega) only [sA_ne])) (fun a q1 q2 => by first | rfl | (simp (disch := omega) only [sA_ne])) (by first | rfl | (simp (disch := omega) only [sA_ne, sA_same, ud_ne])) (by first | rfl | (simp (disch := omega) only [sA_ne, sA_same, ud_ne])) (by first | rfl | (simp (disch := omega) only [sA_ne, sA_same, ud_ne]))  hPl), (BoR_fr (fun a q1 q2 => by first | rfl | (simp (disch := omega) only [sA_ne])) (fun a q1 q2 => by first | rfl | (simp (disch := omega) only [sA_ne])) (by first | rfl | (simp (disch := omega) only [sA_ne, sA_same, ud_ne]))  hBo), (fun q => have qq := hIm (Eq.trans (Eq.symm (by first | rfl | (simp (disch := omega) only [sA_ne, sA_same, ud_ne]))) q); ⟨(ImS_fr (fun a q1 q2 => by first | rfl | (simp (disch := omega) only [sA_ne])) (fun a q1 q2 => by first | rfl | (simp (disch := omega) only [sA_ne])) (fun a q1 q2 => by first | rfl | (simp (disch := omega) only [sA_ne])) (by first | rfl | (simp (disch := omega) only [sA_ne, sA_same, ud_ne]))  qq.1), (ImT_fr (fun a q1 q2 => by first | rfl | (simp (disch := omega) only [sA_ne])) (fun a q1 q2 => by first | rfl | (simp (disch := omega) only [sA_ne])) (by first | rfl | (simp (disch := omega) only [sA_ne, sA_same, ud_ne])) (by first | rfl | (simp (disch := omega) only [sA_ne, sA_same, ud_ne])) qq.2.1), (ImN_fr (fun a q1 q2 => by first | rfl | (simp (disch := omega) only [sA_ne])) (fun a q1 q2 => by first | rfl | (simp (disch := omega) only [sA_ne])) (by first | rfl | (simp (disch := omega) only [sA_ne, sA_same, ud_ne]))  qq.2.2.1), (ImP_fr (fun a q1 q2 => by first | rfl | (simp (disch := omega) only [sA_ne])) (fun a q1 q2 => by first | rfl | (simp (disch := omega) only [sA_ne])) (by first | rfl | (simp (disch := omega) only [sA_ne, sA_same, ud_ne])) (by first | rfl | (simp (disch := omega) only [sA_ne, sA_same, ud_ne])) (by first | rfl | (simp (disch := omega) only [sA_ne, sA_same, ud_ne]))  qq.2.2.2.1), (ImB_fr (fun a q1 q2 => by first | rfl | (simp (disch := omega) only [sA_ne])) (fun a q1 q2 => by first | rfl | (simp (disch := omega) only [sA_ne])) (by first | rfl | (simp (disch := omega) only [sA_ne, sA_same, ud_ne]))  qq.2.2.2.2)⟩), (HmR_fr  (by first | rfl | (simp (disch := omega) only [sA_ne, sA_same, ud_ne])) (by first | rfl | (simp (disch := omega) only [sA_ne, sA_same, ud_ne])) hHm), (TxR_new (s := s) hTx (by omega) (by omega) (by simp (disch := omega) only [sA_same, sA_ne, sA_sA, sA_sr, sB_s, ud_eq, ud_ne, ud_ud, ud_sr, uB_s, Int.add_zero, Int.reduceAdd]) (by simp (disch := omega) only [sA_same, sA_ne, sA_sA, sA_sr, sB_s, ud_eq, ud_ne, ud_ud, ud_sr, uB_s, Int.add_zero, Int.reduceAdd]) (by simp (disch := omega) only [sA_same, sA_ne, sA_sA, sA_sr, sB_s, ud_eq, ud_ne, ud_ud, ud_sr, uB_s, Int.add_zero, Int.reduceAdd]) (by simp (disch := omega) only [sA_same, sA_ne, sA_sA, sA_sr, sB_s, ud_eq, ud_ne, ud_ud, ud_sr, uB_s, Int.add_zero, Int.reduceAdd])), (AcR_fr (fun a q1 q2 => by first | rfl | (simp (disch := omega) only [sA_ne])) (fun a q1 q2 => by first | rfl | (simp (disch := omega) only [sA_ne])) (by first | rfl | (simp (disch := omega) only [sA_ne, sA_same, ud_ne])) (by first | rfl | (simp (disch := omega) only [sA_ne, sA_same, ud_ne])) hAc), (TpR_fr (fun a q1 q2 => by first | rfl | (simp (disch := omega) only [sA_ne])) (fun a q1 q2 => by first | rfl | (simp (disch := omega) only [sA_ne]))   hTp), (JbR_fr (fun a q1 => by first | rfl | (simp (disch := omega) only [sA_ne])) (fun a q1 q2 => by first | rfl | (simp (disch := omega) only [sA_ne])) (by first | rfl | (simp (disch := omega) only [sA_ne, sA_same, ud_ne])) (by first | rfl | (simp (disch := omega) only [sA_ne, sA_same, ud_ne])) (by first | rfl | (simp (disch := omega) only [sA_ne, sA_same, ud_ne])) hJb), (CoR_fr (fun a q1 => by first | rfl | (simp (disch := omega) only [sA_ne])) (by first | rfl | (simp (disch := omega) only [sA_ne, sA_same, ud_ne])) hCo)⟩)
    · (try simp (disch := omega) only [sA_same, sA_ne, sA_sA, sA_sr, sB_s, ud_eq, ud_ne, ud_ud, ud_sr, uB_s, Int.add_zero, Int.reduceAdd] at g3)
      refine v_bipush (n := 27) xB_76 dX10_feed_25 ⟨by decide, by decide⟩ rfl ?_
      refine v_ireturn0 xB_76 dX10_feed_27 xK_76 ?_
      (try simp (disch := omega) only [sA_same, sA_ne, sA_sA, sA_sr, sB_s, ud_eq, ud_ne, ud_ud, ud_sr, uB_s, Int.add_zero, Int.reduceAdd])
      (try rw [t2])
      refine hW _ _ _ (fun D2 W2 hD2 hW2 => ?_)
      refine c_feed (by omega) (by first | omega | (simp only [sA_same, sA_s, ud_s, Int.reduceEq, if_true, if_false, ite_true, ite_false, ↓reduceIte, and_true, true_and, eq_self, Int.add_zero, Int.reduceAdd]; omega) | (simp (disch := omega) only [sA_same, sA_ne, ud_eq, ud_ne, Int.add_zero, Int.reduceAdd]; omega)) (fun gg => ?_) (fun gg => ?_) (fun gg => ?_)
      all_goals (try simp (disch := omega) only [sA_same, sA_ne, ud_eq, ud_ne] at gg)
      all_goals first | (exfalso; omega) | exact hW2 _ h0 | ((try simp (disch := omega) only [sA_same, sA_ne, sA_sA, sA_sr, sB_s, ud_eq, ud_ne, ud_ud, ud_sr, uB_s, Int.add_zero, Int.reduceAdd]); refine hW2 _ ?_; exact ⟨(StR_fr (fun a q1 q2 => by first | rfl | (simp (disch := omega) only [sA_ne])) (fun a q1 q2 => by first | rfl | (simp (disch := omega) only [sA_ne])) (fun a q1 q2 => by first | rfl | (simp (disch := omega) only [sA_ne])) (by first | rfl | (simp (disch := omega) only [sA_ne, sA_same, ud_ne]))  hSt), (ScR_fr (fun a q1 q2 => by first | rfl | (simp (disch := omega) only [sA_ne])) (fun a q1 q2 => by first | rfl | (simp (disch := omega) only [sA_ne])) (fun a q1 q2 => by first | rfl | (simp (disch := omega) only [sA_ne])) (fun a q1 q2 => by first | rfl | (simp (disch := omega) only [sA_ne])) (fun a q1 q2 => by first | rfl | (simp (disch := omega) only [sA_ne]))   hSc), (TrR_fr (fun a q1 q2 => by first | rfl | (simp (disch := omega) only [sA_ne])) (fun a q1 q2 => by first | rfl | (simp (disch := omega) only [sA_ne])) (by first | rfl | (simp (disch := omega) only [sA_ne, sA_same, ud_ne])) (by first | rfl | (simp (disch := omega) only [sA_ne, sA_same, ud_ne])) hTr), (SeR_fr (fun a q1 q2 => by first | rfl | (simp (disch := omega) only [sA_ne])) (fun a q1 q2 => by first | rfl | (simp (disch := omega) only [sA_ne])) (by first | rfl | (simp (disch := omega) only [sA_ne, sA_same, ud_ne]))  hSe), (PlR_fr (fun a q1 q2 => by first | rfl | (simp (disch := omega) only [sA_ne])) (fun a q1 q2 => by first | rfl | (simp (disch := omega) only [sA_ne])) (by first | rfl | (simp (disch := omega) only [sA_ne, sA_same, ud_ne])) (by first | rfl | (simp (disch := omega) only [sA_ne, sA_same, ud_ne])) (by first | rfl | (simp (disch := omega) only [sA_ne, sA_same, ud_ne]))  hPl), (BoR_fr (fun a q1 q2 => by first | rfl | (simp (disch := omega) only [sA_ne])) (fun a q1 q2 => by first | rfl | (simp (disch := omega) only [sA_ne])) (by first | rfl | (simp (disch := omega) only [sA_ne, sA_same, ud_ne]))  hBo), (fun q => have qq := hIm (Eq.trans (Eq.symm (by first | rfl | (simp (disch := omega) only [sA_ne, sA_same, ud_ne]))) q); ⟨(ImS_fr (fun a q1 q2 => by first | rfl | (simp (disch := omega) only [sA_ne])) (fun a q1 q2 => by first | rfl | (simp (disch := omega) only [sA_ne])) (fun a q1 q2 => by first | rfl | (simp (disch := omega) only [sA_ne])) (by first | rfl | (simp (disch := omega) only [sA_ne, sA_same, ud_ne]))  qq.1), (ImT_fr (fun a q1 q2 => by first | rfl | (simp (disch := omega) only [sA_ne])) (fun a q1 q2 => by first | rfl | (simp (disch := omega) only [sA_ne])) (by first | rfl | (simp (disch := omega) only [sA_ne, sA_same, ud_ne])) (by first | rfl | (simp (disch := omega) only [sA_ne, sA_same, ud_ne])) qq.2.1), (ImN_fr (fun a q1 q2 => by first | rfl | (simp (disch := omega) only [sA_ne])) (fun a q1 q2 => by first | rfl | (simp (disch := omega) only [sA_ne])) (by first | rfl | (simp (disch := omega) only [sA_ne, sA_same, ud_ne]))  qq.2.2.1), (ImP_fr (fun a q1 q2 => by first | rfl | (simp (disch := omega) only [sA_ne])) (fun a q1 q2 => by first | rfl | (simp (disch := omega) only [sA_ne])) (by first | rfl | (simp (disch := omega) only [sA_ne, sA_same, ud_ne])) (by first | rfl | (simp (disch := omega) only [sA_ne, sA_same, ud_ne])) (by first | rfl | (simp (disch := omega) only [sA_ne, sA_same, ud_ne]))  qq.2.2.2.1), (ImB_fr (fun a q1 q2 => by first | rfl | (simp (disch := omega) only [sA_ne])) (fun a q1 q2 => by first | rfl | (simp (disch := omega) only [sA_ne])) (by first | rfl | (simp (disch := omega) only [sA_ne, sA_same, ud_ne]))  qq.2.2.2.2)⟩), (HmR_fr  (by first | rfl | (simp (disch := omega) only [sA_ne, sA_same, ud_ne])) (by first | rfl | (simp (disch := omega) only [sA_ne, sA_same, ud_ne])) hHm), (TxR_new (s := s) hTx (by omega) (by omega) (by simp (disch := omega) only [sA_same, sA_ne, sA_sA, sA_sr, sB_s, ud_eq, ud_ne, ud_ud, ud_sr, uB_s, Int.add_zero, Int.reduceAdd]) (by simp (disch := omega) only [sA_same, sA_ne, sA_sA, sA_sr, sB_s, ud_eq, ud_ne, ud_ud, ud_sr, uB_s, Int.add_zero, Int.reduceAdd]) (by simp (disch := omega) only [sA_same, sA_ne, sA_sA, sA_sr, sB_s, ud_eq, ud_ne, ud_ud, ud_sr, uB_s, Int.add_zero, Int.reduceAdd]) (by simp (disch := omega) only [sA_same, sA_ne, sA_sA, sA_sr, sB_s, ud_eq, ud_ne, ud_ud, ud_sr, uB_s, Int.add_zero, Int.reduceAdd])), (AcR_fr (fun a q1 q2 => by first | rfl | (simp (disch := omega) only [sA_ne])) (fun a q1 q2 => by first | rfl | (simp (disch := omega) only [sA_ne])) (by first | rfl | (simp (disch := omega) only [sA_ne, sA_same, ud_ne])) (by first | rfl | (simp (disch := omega) only [sA_ne, sA_same, ud_ne])) hAc), (TpR_fr (fun a q1 q2 => by first | rfl | (simp (disch := omega) only [sA_ne])) (fun a q1 q2 => by first | rfl | (simp (disch := omega) only [sA_ne]))   hTp), (JbR_fr (fun a q1 => by first | rfl | (simp (disch := omega) only [sA_ne])) (fun a q1 q2 => by first | rfl | (simp (disch := omega) only [sA_ne])) (by first | rfl | (simp (disch := omega) only [sA_ne, sA_same, ud_ne])) (by first | rfl | (simp (disch := omega) only [sA_ne, sA_same, ud_ne])) (by first | rfl | (simp (disch := omega) only [sA_ne, sA_same, ud_ne])) hJb), (CoR_fr (fun a q1 => by first | rfl | (simp (disch := omega) only [sA_ne])) (by first | rfl | (simp (disch := omega) only [sA_ne, sA_same, ud_ne])) hCo)⟩)
  · (try simp (disch := omega) only [sA_same, sA_ne, sA_sA, sA_sr, sB_s, ud_eq, ud_ne, ud_ud, ud_sr, uB_s, Int.add_zero, Int.reduceAdd] at g2)
    refine v_if_ne_n (n := 10) xB_76 dX10_feed_7 (by decide) rfl (by decide) ?_
    refine v_bipush (n := 12) xB_76 dX10_feed_10 ⟨by decide, by decide⟩ rfl ?_
    refine v_ireturn0 xB_76 dX10_feed_12 xK_76 ?_
    (try simp (disch := omega) only [sA_same, sA_ne, sA_sA, sA_sr, sB_s, ud_eq, ud_ne, ud_ud, ud_sr, uB_s, Int.add_zero, Int.reduceAdd])
    (try rw [t2])
    refine hW _ _ _ (fun D2 W2 hD2 hW2 => ?_)
    refine c_feed (by omega) (by first | omega | (simp only [sA_same, sA_s, ud_s, Int.reduceEq, if_true, if_false, ite_true, ite_false, ↓reduceIte, and_true, true_and, eq_self, Int.add_zero, Int.reduceAdd]; omega) | (simp (disch := omega) only [sA_same, sA_ne, ud_eq, ud_ne, Int.add_zero, Int.reduceAdd]; omega)) (fun gg => ?_) (fun gg => ?_) (fun gg => ?_)
    all_goals (try simp (disch := omega) only [sA_same, sA_ne, ud_eq, ud_ne] at gg)
    all_goals first | (exfalso; omega) | exact hW2 _ h0 | ((try simp (disch := omega) only [sA_same, sA_ne, sA_sA, sA_sr, sB_s, ud_eq, ud_ne, ud_ud, ud_sr, uB_s, Int.add_zero, Int.reduceAdd]); refine hW2 _ ?_; exact ⟨(StR_fr (fun a q1 q2 => by first | rfl | (simp (disch := omega) only [sA_ne])) (fun a q1 q2 => by first | rfl | (simp (disch := omega) only [sA_ne])) (fun a q1 q2 => by first | rfl | (simp (disch := omega) only [sA_ne])) (by first | rfl | (simp (disch := omega) only [sA_ne, sA_same, ud_ne]))  hSt), (ScR_fr (fun a q1 q2 => by first | rfl | (simp (disch := omega) only [sA_ne])) (fun a q1 q2 => by first | rfl | (simp (disch := omega) only [sA_ne])) (fun a q1 q2 => by first | rfl | (simp (disch := omega) only [sA_ne])) (fun a q1 q2 => by first | rfl | (simp (disch := omega) only [sA_ne])) (fun a q1 q2 => by first | rfl | (simp (disch := omega) only [sA_ne]))   hSc), (TrR_fr (fun a q1 q2 => by first | rfl | (simp (disch := omega) only [sA_ne])) (fun a q1 q2 => by first | rfl | (simp (disch := omega) only [sA_ne])) (by first | rfl | (simp (disch := omega) only [sA_ne, sA_same, ud_ne])) (by first | rfl | (simp (disch := omega) only [sA_ne, sA_same, ud_ne])) hTr), (SeR_fr (fun a q1 q2 => by first | rfl | (simp (disch := omega) only [sA_ne])) (fun a q1 q2 => by first | rfl | (simp (disch := omega) only [sA_ne])) (by first | rfl | (simp (disch := omega) only [sA_ne, sA_same, ud_ne]))  hSe), (PlR_fr (fun a q1 q2 => by first | rfl | (simp (disch := omega) only [sA_ne])) (fun a q1 q2 => by first | rfl | (simp (disch := omega) only [sA_ne])) (by first | rfl | (simp (disch := omega) only [sA_ne, sA_same, ud_ne])) (by first | rfl | (simp (disch := omega) only [sA_ne, sA_same, ud_ne])) (by first | rfl | (simp (disch := omega) only [sA_ne, sA_same, ud_ne]))  hPl), (BoR_fr (fun a q1 q2 => by first | rfl | (simp (disch := omega) only [sA_ne])) (fun a q1 q2 => by first | rfl | (simp (disch := omega) only [sA_ne])) (by first | rfl | (simp (disch := omega) only [sA_ne, sA_same, ud_ne]))  hBo), (fun q => have qq := hIm (Eq.trans (Eq.symm (by first | rfl | (simp (disch := omega) only [sA_ne, sA_same, ud_ne]))) q); ⟨(ImS_fr (fun a q1 q2 => by first | rfl | (simp (disch := omega) only [sA_ne])) (fun a q1 q2 => by first | rfl | (simp (disch := omega) only [sA_ne])) (fun a q1 q2 => by first | rfl | (simp (disch := omega) only [sA_ne])) (by first | rfl | (simp (disch := omega) only [sA_ne, sA_same, ud_ne]))  qq.1), (ImT_fr (fun a q1 q2 => by first | rfl | (simp (disch := omega) only [sA_ne])) (fun a q1 q2 => by first | rfl | (simp (disch := omega) only [sA_ne])) (by first | rfl | (simp (disch := omega) only [sA_ne, sA_same, ud_ne])) (by first | rfl | (simp (disch := omega) only [sA_ne, sA_same, ud_ne])) qq.2.1), (ImN_fr (fun a q1 q2 => by first | rfl | (simp (disch := omega) only [sA_ne])) (fun a q1 q2 => by first | rfl | (simp (disch := omega) only [sA_ne])) (by first | rfl | (simp (disch := omega) only [sA_ne, sA_same, ud_ne]))  qq.2.2.1), (ImP_fr (fun a q1 q2 => by first | rfl | (simp (disch := omega) only [sA_ne])) (fun a q1 q2 => by first | rfl | (simp (disch := omega) only [sA_ne])) (by first | rfl | (simp (disch := omega) only [sA_ne, sA_same, ud_ne])) (by first | rfl | (simp (disch := omega) only [sA_ne, sA_same, ud_ne])) (by first | rfl | (simp (disch := omega) only [sA_ne, sA_same, ud_ne]))  qq.2.2.2.1), (ImB_fr (fun a q1 q2 => by first | rfl | (simp (disch := omega) only [sA_ne])) (fun a q1 q2 => by first | rfl | (simp (disch := omega) only [sA_ne])) (by first | rfl | (simp (disch := omega) only [sA_ne, sA_same, ud_ne]))  qq.2.2.2.2)⟩), (HmR_fr  (by first | rfl | (simp (disch := omega) only [sA_ne, sA_same, ud_ne])) (by first | rfl | (simp (disch := omega) only [sA_ne, sA_same, ud_ne])) hHm), (TxR_new (s := s) hTx (by omega) (by omega) (by simp (disch := omega) only [sA_same, sA_ne, sA_sA, sA_sr, sB_s, ud_eq, ud_ne, ud_ud, ud_sr, uB_s, Int.add_zero, Int.reduceAdd]) (by simp (disch := omega) only [sA_same, sA_ne, sA_sA, sA_sr, sB_s, ud_eq, ud_ne, ud_ud, ud_sr, uB_s, Int.add_zero, Int.reduceAdd]) (by simp (disch := omega) only [sA_same, sA_ne, sA_sA, sA_sr, sB_s, ud_eq, ud_ne, ud_ud, ud_sr, uB_s, Int.add_zero, Int.reduceAdd]) (by simp (disch := omega) only [sA_same, sA_ne, sA_sA, sA_sr, sB_s, ud_eq, ud_ne, ud_ud, ud_sr, uB_s, Int.add_zero, Int.reduceAdd])), (AcR_fr (fun a q1 q2 => by first | rfl | (simp (disch := omega) only [sA_ne])) (fun a q1 q2 => by first | rfl | (simp (disch := omega) only [sA_ne])) (by first | rfl | (simp (disch := omega) only [sA_ne, sA_same, ud_ne])) (by first | rfl | (simp (disch := omega) only [sA_ne, sA_same, ud_ne])) hAc), (TpR_fr (fun a q1 q2 => by first | rfl | (simp (disch := omega) only [sA_ne])) (fun a q1 q2 => by first | rfl | (simp (disch := omega) only [sA_ne]))   hTp), (JbR_fr (fun a q1 => by first | rfl | (simp (disch := omega) only [sA_ne])) (fun a q1 q2 => by first | rfl | (simp (disch := omega) only [sA_ne])) (by first | rfl | (simp (disch := omega) only [sA_ne, sA_same, ud_ne])) (by first | rfl | (simp (disch := omega) only [sA_ne, sA_same, ud_ne])) (by first | rfl | (simp (disch := omega) only [sA_ne, sA_same, ud_ne])) hJb), (CoR_fr (fun a q1 => by first | rfl | (simp (disch := omega) only [sA_ne])) (by first | rfl | (simp (disch := omega) only [sA_ne, sA_same, ud_ne])) hCo)⟩)
theorem StR_0 {m m2 : PM} (h : StR m) (e0 : m2 81 22 = 0) (e1 : m2 2 1 = 0) (a1 : m2 3 = m 3) (a2 : m2 96 = m 96) (a3 : m2 99 = m 99) : StR m2 := by
  unfold StR at *
  rw [e0, e1, a1, a2, a3]
  exact ⟨by omega, rfl, h.2.2.1, h.2.2.2.1, h.2.2.2.2.1, fun s h1 h2 => by omega⟩
theorem StR_new {m2 : PM} {N : Int} {f sd dn : Int → Int} (hN : 0 ≤ N ∧ N ≤ 12) (hf : okc f) (hdn : bl dn) (hsd : pgs sd) (hpk : ∀ s, 0 ≤ s → s < N → f s = pkA sd dn s) (e0 : m2 81 22 = N) (e1 : m2 2 1 = N) (a1 : m2 3 = f) (a2 : m2 96 = sd) (a3 : m2 99 = dn) : StR m2 := by
  unfold StR
  rw [e0, e1, a1, a2, a3]
  exact ⟨hN, rfl, hf, hdn, hsd, hpk⟩
set_option maxHeartbeats 2000000 in
theorem p_empty (m0 : PM) (L : Nat)   : PairI m0 L 79 154 [.inr (.inr 0)] [.inr (.inr 81)] := by
  intro m dy h D W hD hW
  have h0 := h
  obtain ⟨hSt, hSc, hTr, hSe, hPl, hBo, hIm, hHm, hTx, hAc, hTp, hJb, hCo⟩ := h
  have s1 := hSt.1
  have s2 := hSt.2.1
  refine C_go (k := 55) (by omega) xL_79 (fun d hd => ?_)
  show V d 79 (0, ([some (.inr (.inr 0)), none], ([], (m, (none, (dy, L)))))) W
  refine v_aload_n (n := 1) xB_79 dX10_empty_0 rfl rfl ?_
  refine v_gf_s (n := 4) (kz := 0) xB_79 dX10_empty_1 xO_79 fl_10_12 fg_10_0 (sh_0 _ _ _) rfl st_0_0 rfl ?_
  refine v_gf_s (n := 7) (kz := 0) xB_79 dX10_empty_4 xO_79 fl_10_76 fg_6_0 (sh_1 _ _ _) rfl st_1_0 rfl ?_
  refine v_gf_i (n := 10) (kz := 1) xB_79 dX10_empty_7 xO_79 fl_10_79 fg_4_1 rfl (sh_2 _ _ _) rfl rfl ?_
  refine v_istore_n1 (n := 11) xB_79 dX10_empty_10 rfl rfl ?_
  refine v_aload_n (n := 12) xB_79 dX10_empty_11 rfl rfl ?_
  refine v_gf_s (n := 15) (kz := 0) xB_79 dX10_empty_12 xO_79 fl_10_12 fg_10_0 (sh_0 _ _ _) rfl st_0_0 rfl ?_
  refine v_gf_s (n := 18) (kz := 0) xB_79 dX10_empty_15 xO_79 fl_10_76 fg_6_0 (sh_1 _ _ _) rfl st_1_0 rfl ?_
  refine v_iconst (n := 19) xB_79 dX10_empty_18 ⟨by decide, by decide⟩ rfl ?_
  refine v_pf_i (n := 22) (kz := 1) xB_79 dX10_empty_19 xO_79 fl_10_79 fg_4_1 (Or.inl fn_4_1) (sh_2 _ _ _) (by decide) rfl rfl ?_
  (try simp (disch := omega) only [sA_same, sA_ne, sA_sA, sA_sr, sB_s, ud_eq, ud_ne, ud_ud, ud_sr, uB_s, Int.add_zero, Int.reduceAdd])
  refine v_iload_n (n := 23) xB_79 dX10_empty_22 rfl rfl ?_
  refine v_ireturn0 xB_79 dX10_empty_23 xK_79 ?_
  rw [s2]
  refine hW _ _ _ (fun D2 W2 hD2 hW2 => ?_)
  refine c_empty (by omega)  ?_
  all_goals (try simp (disch := omega) only [sA_same, sA_ne, ud_eq, ud_ne] at gg)
  all_goals first | (exfalso; omega) | exact hW2 _ h0 | ((try simp (disch := omega) only [sA_same, sA_ne, sA_sA, sA_sr, sB_s, ud_eq, ud_ne, ud_ud, ud_sr, uB_s, Int.add_zero, Int.reduceAdd]); refine hW2 _ ?_; exact ⟨(StR_0 hSt (by simp (disch := omega) only [sA_same, sA_ne, sA_sA, sA_sr, sB_s, ud_eq, ud_ne, ud_ud, ud_sr, uB_s, Int.add_zero, Int.reduceAdd]) (by simp (disch := omega) only [sA_same, sA_ne, sA_sA, sA_sr, sB_s, ud_eq, ud_ne, ud_ud, ud_sr, uB_s, Int.add_zero, Int.reduceAdd]) (by simp (disch := omega) only [sA_same, sA_ne, sA_sA, sA_sr, sB_s, ud_eq, ud_ne, ud_ud, ud_sr, uB_s, Int.add_zero, Int.reduceAdd]) (by simp (disch := omega) only [sA_same, sA_ne, sA_sA, sA_sr, sB_s, ud_eq, ud_ne, ud_ud, ud_sr, uB_s, Int.add_zero, Int.reduceAdd]) (by simp (disch := omega) only [sA_same, sA_ne, sA_sA, sA_sr, sB_s, ud_eq, ud_ne, ud_ud, ud_sr, uB_s, Int.add_zero, Int.reduceAdd])), (ScR_fr (fun a q1 q2 => by first | rfl | (simp (disch := omega) only [sA_ne])) (fun a q1 q2 => by first | rfl | (simp (disch := omega) only [sA_ne])) (fun a q1 q2 => by first | rfl | (simp (disch := omega) only [sA_ne])) (fun a q1 q2 => by first | rfl | (simp (disch := omega) only [sA_ne])) (fun a q1 q2 => by first | rfl | (simp (disch := omega) only [sA_ne]))   hSc), (TrR_fr (fun a q1 q2 => by first | rfl | (simp (disch := omega) only [sA_ne])) (fun a q1 q2 => by first | rfl | (simp (disch := omega) only [sA_ne])) (by first | rfl | (simp (disch := omega) only [sA_ne, sA_same, ud_ne])) (by first | rfl | (simp (disch := omega) only [sA_ne, sA_same, ud_ne])) hTr), (SeR_fr (fun a q1 q2 => by first | rfl | (simp (disch := omega) only [sA_ne])) (fun a q1 q2 => by first | rfl | (simp (disch := omega) only [sA_ne])) (by first | rfl | (simp (disch := omega) only [sA_ne, sA_same, ud_ne]))  hSe), (PlR_fr (fun a q1 q2 => by first | rfl | (simp (disch := omega) only [sA_ne])) (fun a q1 q2 => by first | rfl | (simp (disch := omega) only [sA_ne])) (by first | rfl | (simp (disch := omega) only [sA_ne, sA_same, ud_ne])) (by first | rfl | (simp (disch := omega) only [sA_ne, sA_same, ud_ne])) (by first | rfl | (simp (disch := omega) only [sA_ne, sA_same, ud_ne]))  hPl), (BoR_fr (fun a q1 q2 => by first | rfl | (simp (disch := omega) only [sA_ne])) (fun a q1 q2 => by first | rfl | (simp (disch := omega) only [sA_ne])) (by first | rfl | (simp (disch := omega) only [sA_ne, sA_same, ud_ne]))  hBo), (fun q => have qq := hIm (Eq.trans (Eq.symm (by first | rfl | (simp (disch := omega) only [sA_ne, sA_same, ud_ne]))) q); ⟨(ImS_fr (fun a q1 q2 => by first | rfl | (simp (disch := omega) only [sA_ne])) (fun a q1 q2 => by first | rfl | (simp (disch := omega) only [sA_ne])) (fun a q1 q2 => by first | rfl | (simp (disch := omega) only [sA_ne])) (by first | rfl | (simp (disch := omega) only [sA_ne, sA_same, ud_ne]))  qq.1), (ImT_fr (fun a q1 q2 => by first | rfl | (simp (disch := omega) only [sA_ne])) (fun a q1 q2 => by first | rfl | (simp (disch := omega) only [sA_ne])) (by first | rfl | (simp (disch := omega) only [sA_ne, sA_same, ud_ne])) (by first | rfl | (simp (disch := omega) only [sA_ne, sA_same, ud_ne])) qq.2.1), (ImN_fr (fun a q1 q2 => by first | rfl | (simp (disch := omega) only [sA_ne])) (fun a q1 q2 => by first | rfl | (simp (disch := omega) only [sA_ne])) (by first | rfl | (simp (disch := omega) only [sA_ne, sA_same, ud_ne]))  qq.2.2.1), (ImP_fr (fun a q1 q2 => by first | rfl | (simp (disch := omega) only [sA_ne])) (fun a q1 q2 => by first | rfl | (simp (disch := omega) only [sA_ne])) (by first | rfl | (simp (disch := omega) only [sA_ne, sA_same, ud_ne])) (by first | rfl | (simp (disch := omega) only [sA_ne, sA_same, ud_ne])) (by first | rfl | (simp (disch := omega) only [sA_ne, sA_same, ud_ne]))  qq.2.2.2.1), (ImB_fr (fun a q1 q2 => by first | rfl | (simp (disch := omega) only [sA_ne])) (fun a q1 q2 => by first | rfl | (simp (disch := omega) only [sA_ne])) (by first | rfl | (simp (disch := omega) only [sA_ne, sA_same, ud_ne]))  qq.2.2.2.2)⟩), (HmR_fr  (by first | rfl | (simp (disch := omega) only [sA_ne, sA_same, ud_ne])) (by first | rfl | (simp (disch := omega) only [sA_ne, sA_same, ud_ne])) hHm), (TxR_fr (fun a q1 q2 => by first | rfl | (simp (disch := omega) only [sA_ne])) (fun a q1 q2 => by first | rfl | (simp (disch := omega) only [sA_ne])) (by first | rfl | (simp (disch := omega) only [sA_ne, sA_same, ud_ne])) (by first | rfl | (simp (disch := omega) only [sA_ne, sA_same, ud_ne])) hTx), (AcR_fr (fun a q1 q2 => by first | rfl | (simp (disch := omega) only [sA_ne])) (fun a q1 q2 => by first | rfl | (simp (disch := omega) only [sA_ne])) (by first | rfl | (simp (disch := omega) only [sA_ne, sA_same, ud_ne])) (by first | rfl | (simp (disch := omega) only [sA_ne, sA_same, ud_ne])) hAc), (TpR_fr (fun a q1 q2 => by first | rfl | (simp (disch := omega) only [sA_ne])) (fun a q1 q2 => by first | rfl | (simp (disch := omega) only [sA_ne]))   hTp), (JbR_fr (fun a q1 => by first | rfl | (simp (disch := omega) only [sA_ne])) (fun a q1 q2 => by first | rfl | (simp (disch := omega) only [sA_ne])) (by first | rfl | (simp (disch := omega) only [sA_ne, sA_same, ud_ne])) (by first | rfl | (simp (disch := omega) only [sA_ne, sA_same, ud_ne])) (by first | rfl | (simp (disch := omega) only [sA_ne, sA_same, ud_ne])) hJb), (CoR_fr (fun a q1 => by first | rfl | (simp (disch := omega) only [sA_ne])) (by first | rfl | (simp (disch := omega) only [sA_ne, sA_same, ud_ne])) hCo)⟩)
