/-! The image: the class against the reference. -/
set_option maxHeartbeats 1000000 in
theorem k_image {d : Nat}  {m : PM} {dy : List (Nat × Nat)} {L : Nat} {Q : Option PV → PS → Prop} (hd : 3 ≤ d) (h5 : 0 ≤ m 5 3 ∧ m 5 3 ≤ 5) (h9 : 0 ≤ m 9 3 ∧ m 9 3 ≤ 6) (h13 : 0 ≤ m 13 3 ∧ m 13 3 ≤ 8) (o1 : ∀ mA : PM, RC m mA 26 0 → Q (some (.inl (m 2 1))) (setA mA 0 (ud (mA 0) 2 1), (none, (dy, L)))) : C d 108 [.inr (.inr 0)] (m, (none, (dy, L))) Q := by
  refine C_go (k := 2) hd xL_108 (fun d hd => ?_)
  show V d 108 (0, ([some (.inr (.inr 0))], ([], (m, (none, (dy, L)))))) Q
  refine v_aload_n (n := 1) xB_108 dX10_image_0 rfl rfl ?_
  refine v_gf_s (n := 4) (kz := 1) xB_108 dX10_image_1 xO_108 fl_10_18 fg_10_1 (sh_0 _ _ _) rfl st_0_1 rfl ?_
  refine v_aload_n (n := 5) xB_108 dX10_image_4 rfl rfl ?_
  refine v_gf_s (n := 8) (kz := 0) xB_108 dX10_image_5 xO_108 fl_10_12 fg_10_0 (sh_0 _ _ _) rfl st_0_0 rfl ?_
  refine v_call_v (n := 11) xB_108 dX10_image_8 xO_108 iv_10_271 rfl (sh_27 _ _ _) rfl rfl rfl ?_
  refine k_rcopyi (by omega) (by first | omega | (simp only [sA_same, sA_s, ud_s, Int.reduceEq, if_true, if_false, ite_true, ite_false, ↓reduceIte, and_true, true_and, eq_self, Int.add_zero, Int.reduceAdd]; omega) | (simp (disch := omega) only [sA_same, sA_ne, ud_eq, ud_ne, Int.add_zero, Int.reduceAdd]; omega)) (by first | omega | (simp only [sA_same, sA_s, ud_s, Int.reduceEq, if_true, if_false, ite_true, ite_false, ↓reduceIte, and_true, true_and, eq_self, Int.add_zero, Int.reduceAdd]; omega) | (simp (disch := omega) only [sA_same, sA_ne, ud_eq, ud_ne, Int.add_zero, Int.reduceAdd]; omega)) (by first | omega | (simp only [sA_same, sA_s, ud_s, Int.reduceEq, if_true, if_false, ite_true, ite_false, ↓reduceIte, and_true, true_and, eq_self, Int.add_zero, Int.reduceAdd]; omega) | (simp (disch := omega) only [sA_same, sA_ne, ud_eq, ud_ne, Int.add_zero, Int.reduceAdd]; omega)) (fun mA hC => ?_)
  refine v_aload_n (n := 12) xB_108 dX10_image_11 rfl rfl ?_
  refine v_iconst (n := 13) xB_108 dX10_image_12 ⟨by decide, by decide⟩ rfl ?_
  refine v_pf_z (n := 16) (kz := 2) xB_108 dX10_image_13 xO_108 fl_10_274 fg_10_2 (Or.inl fn_10_2) (sh_0 _ _ _) (by decide) rfl (by decide) rfl ?_
  (try simp (disch := omega) only [sA_same, sA_ne, sA_sA, sA_sr, sB_s, ud_eq, ud_ne, ud_ud, ud_sr, uB_s, Int.add_zero, Int.reduceAdd])
  refine v_aload_n (n := 17) xB_108 dX10_image_16 rfl rfl ?_
  refine v_gf_s (n := 20) (kz := 0) xB_108 dX10_image_17 xO_108 fl_10_12 fg_10_0 (sh_0 _ _ _) rfl st_0_0 rfl ?_
  refine v_gf_s (n := 23) (kz := 0) xB_108 dX10_image_20 xO_108 fl_10_76 fg_6_0 (sh_1 _ _ _) rfl st_1_0 rfl ?_
  refine v_gf_i (n := 26) (kz := 1) xB_108 dX10_image_23 xO_108 fl_10_79 fg_4_1 rfl (sh_2 _ _ _) rfl rfl ?_
  refine v_ireturn0 xB_108 dX10_image_26 xK_108 ?_
  have e2 : mA 2 1 = m 2 1 := by rw [hC.1 2 (by omega)]
  (try simp (disch := omega) only [sA_same, sA_ne, sA_sA, sA_sr, sB_s, ud_eq, ud_ne, ud_ud, ud_sr, uB_s, Int.add_zero, Int.reduceAdd])
  rw [e2]
  exact o1 _ hC
set_option maxHeartbeats 1000000 in
theorem k_undo {d : Nat}  {m : PM} {dy : List (Nat × Nat)} {L : Nat} {Q : Option PV → PS → Prop} (hd : 3 ≤ d) (hh : m 0 2 = 0 ∨ m 0 2 = 1) (h5 : m 0 2 = 1 → 0 ≤ m 31 3 ∧ m 31 3 ≤ 5) (h9 : m 0 2 = 1 → 0 ≤ m 35 3 ∧ m 35 3 ≤ 6) (h13 : m 0 2 = 1 → 0 ≤ m 39 3 ∧ m 39 3 ≤ 8) (o1 : (m 0 2 = 0) → Q (some (.inl (-3))) (m, (none, (dy, L)))) (o2 : ∀ mA : PM, RC m mA 0 26 → (m 0 2 = 1) → Q (some (.inl (m 28 1))) (mA, (none, (dy, L)))) : C d 109 [.inr (.inr 0)] (m, (none, (dy, L))) Q := by
  refine C_go (k := 2) hd xL_109 (fun d hd => ?_)
  show V d 109 (0, ([some (.inr (.inr 0))], ([], (m, (none, (dy, L)))))) Q
  refine v_aload_n (n := 1) xB_109 dX10_undo_0 rfl rfl ?_
  refine v_gf_i (n := 4) (kz := 2) xB_109 dX10_undo_1 xO_109 fl_10_274 fg_10_2 rfl (sh_0 _ _ _) rfl rfl ?_
  refine v_if_ne (t := 10) (n := 7) xB_109 dX10_undo_4 (by decide) rfl rfl (fun g1 => ?_) (fun g1 => ?_)
  · refine v_aload_n (n := 11) xB_109 dX10_undo_10 rfl rfl ?_
    refine v_gf_s (n := 14) (kz := 0) xB_109 dX10_undo_11 xO_109 fl_10_12 fg_10_0 (sh_0 _ _ _) rfl st_0_0 rfl ?_
    refine v_aload_n (n := 15) xB_109 dX10_undo_14 rfl rfl ?_
    refine v_gf_s (n := 18) (kz := 1) xB_109 dX10_undo_15 xO_109 fl_10_18 fg_10_1 (sh_0 _ _ _) rfl st_0_1 rfl ?_
    refine v_call_v (n := 21) xB_109 dX10_undo_18 xO_109 iv_10_271 rfl (sh_1 _ _ _) rfl rfl rfl ?_
    refine k_rcopyu (by omega) (by first | omega | (simp only [sA_same, sA_s, ud_s, Int.reduceEq, if_true, if_false, ite_true, ite_false, ↓reduceIte, and_true, true_and, eq_self, Int.add_zero, Int.reduceAdd]; omega) | (simp (disch := omega) only [sA_same, sA_ne, ud_eq, ud_ne, Int.add_zero, Int.reduceAdd]; omega)) (by first | omega | (simp only [sA_same, sA_s, ud_s, Int.reduceEq, if_true, if_false, ite_true, ite_false, ↓reduceIte, and_true, true_and, eq_self, Int.add_zero, Int.reduceAdd]; omega) | (simp (disch := omega) only [sA_same, sA_ne, ud_eq, ud_ne, Int.add_zero, Int.reduceAdd]; omega)) (by first | omega | (simp only [sA_same, sA_s, ud_s, Int.reduceEq, if_true, if_false, ite_true, ite_false, ↓reduceIte, and_true, true_and, eq_self, Int.add_zero, Int.reduceAdd]; omega) | (simp (disch := omega) only [sA_same, sA_ne, ud_eq, ud_ne, Int.add_zero, Int.reduceAdd]; omega)) (fun mA hC => ?_)
    refine v_aload_n (n := 22) xB_109 dX10_undo_21 rfl rfl ?_
    refine v_gf_s (n := 25) (kz := 0) xB_109 dX10_undo_22 xO_109 fl_10_12 fg_10_0 (sh_0 _ _ _) rfl st_0_0 rfl ?_
    refine v_gf_s (n := 28) (kz := 0) xB_109 dX10_undo_25 xO_109 fl_10_76 fg_6_0 (sh_1 _ _ _) rfl st_1_0 rfl ?_
    refine v_gf_i (n := 31) (kz := 1) xB_109 dX10_undo_28 xO_109 fl_10_79 fg_4_1 rfl (sh_2 _ _ _) rfl rfl ?_
    refine v_ireturn0 xB_109 dX10_undo_31 xK_109 ?_
    first
    | exact o1 (by omega)
    | (have e2 : mA 2 1 = m 28 1 := hC.2.1
       rw [e2]
       exact o2 _ hC (by omega))
  · refine v_bipush (n := 9) xB_109 dX10_undo_7 ⟨by decide, by decide⟩ rfl ?_
    refine v_ireturn0 xB_109 dX10_undo_9 xK_109 ?_
    first
    | exact o1 (by omega)
    | (have e2 : mA 2 1 = m 28 1 := hC.2.1
       rw [e2]
       exact o2 _ hC (by omega))
theorem ImS_new {m m2 : PM} (h : StR m) (e45 : m2 81 45 = m 81 22) (e28 : m2 28 1 = m 2 1) (e29 : m2 29 = cp12 (m 3) (m 29)) (e123 : m2 123 = ivl (m 99) (m 123) 0 24) (e111 : m2 111 = ivl (m 96) (m 111) 0 24) : ImS m2 := by
  obtain ⟨a1, a2, a3, a4, a5, a6⟩ := h
  unfold ImS okc12 bl24 pgs24
  rw [e45, e28, e29, e123, e111]
  refine ⟨a1, a2, fun s p q => by rw [cp12_at ⟨p, q⟩]; exact a3 s, fun k p q => by rw [ivl_in p q]; exact a4 k, fun k p q => by rw [ivl_in p q]; exact a5 k, fun s p q => ?_⟩
  rw [cp12_at ⟨p, by omega⟩, a6 s p q]
  unfold pkA
  simp (disch := omega) only [ivl_in]
theorem StR_back {m m2 : PM} (h : ImS m) (h0 : StR m) (e22 : m2 81 22 = m 81 45) (e2 : m2 2 1 = m 28 1) (e3 : m2 3 = cp12 (m 29) (m 3)) (e99 : m2 99 = ivl (m 123) (m 99) 0 24) (e96 : m2 96 = ivl (m 111) (m 96) 0 24) : StR m2 := by
  obtain ⟨a1, a2, a3, a4, a5, a6⟩ := h
  obtain ⟨b1, b2, b3, b4, b5, b6⟩ := h0
  unfold StR
  rw [e22, e2, e3, e99, e96]
  refine ⟨a1, a2, fun s => ?_, fun k => ?_, fun k => ?_, fun s p q => ?_⟩
  · by_cases hs : 0 ≤ s ∧ s < 12
    · rw [cp12_at hs]; exact a3 s hs.1 hs.2
    · unfold cp12; rw [if_neg (by omega)]; exact b3 s
  · by_cases hk : 0 ≤ k ∧ k < 24
    · rw [ivl_in hk.1 hk.2]; exact a4 k hk.1 hk.2
    · unfold ivl; rw [if_neg hk]; exact b4 k
  · by_cases hk : 0 ≤ k ∧ k < 24
    · rw [ivl_in hk.1 hk.2]; exact a5 k hk.1 hk.2
    · unfold ivl; rw [if_neg hk]; exact b5 k
  · rw [cp12_at ⟨p, by omega⟩, a6 s p q]
    unfold pkA
    simp (disch := omega) only [ivl_in]
theorem ImT_new {m m2 : PM} (h : TrR m) (e46 : m2 81 46 = m 81 0) (e27 : m2 27 2 = m 1 2) (e112 : m2 112 = ivl (m 82) (m 112) 0 5) (e113 : m2 113 = ivl (m 83) (m 113) 0 5) (e114 : m2 114 = ivl (m 84) (m 114) 0 5) (e115 : m2 115 = ivl (m 85) (m 115) 0 20) (et : ∀ t, 0 ≤ t → t < 5 → m2 (43 + 2 * t) = tc3 (m (17 + 2 * t)) (m (43 + 2 * t)) ∧ m2 (44 + 2 * t) = cp4 (m (18 + 2 * t)) (m (44 + 2 * t))) : ImT m2 := by
  obtain ⟨a1, a2, a3, a4⟩ := h
  unfold ImT r9b
  rw [e46, e27, e112, e113, e114, e115]
  refine ⟨a1, a2, fun k p q => by rw [ivl_in p q]; exact a3 k, fun t p q => ?_⟩
  obtain ⟨b1, b2, b3, b4, b5, b6, b7, b8⟩ := a4 t p q
  obtain ⟨f1, f2⟩ := et t p q
  obtain ⟨g1, g2, g3⟩ := tc3_at (m (17 + 2 * t)) (m (43 + 2 * t))
  rw [f1, f2, g1, g2, g3, ivl_in p q, ivl_in p q, ivl_in p q]
  exact ⟨b1, b2, b3, fun i x y => by rw [cp4_at ⟨x, y⟩, ivl_in (by omega) (by omega)]; exact b4 i x y, b5, b6, b7, fun i x y => by rw [cp4_at ⟨x, y⟩]; exact b8 i⟩
theorem TrR_back {m m2 : PM} (h : ImT m) (h0 : TrR m) (e0 : m2 81 0 = m 81 46) (e1 : m2 1 2 = m 27 2) (e82 : m2 82 = ivl (m 112) (m 82) 0 5) (e83 : m2 83 = ivl (m 113) (m 83) 0 5) (e84 : m2 84 = ivl (m 114) (m 84) 0 5) (e85 : m2 85 = ivl (m 115) (m 85) 0 20) (et : ∀ t, 0 ≤ t → t < 5 → m2 (17 + 2 * t) = tc3 (m (43 + 2 * t)) (m (17 + 2 * t)) ∧ m2 (18 + 2 * t) = cp4 (m (44 + 2 * t)) (m (18 + 2 * t))) : TrR m2 := by
  obtain ⟨a1, a2, a3, a4⟩ := h
  obtain ⟨-, -, c3, c4⟩ := h0
  unfold TrR
  rw [e0, e1, e82, e83, e84, e85]
  refine ⟨a1, a2, fun k => ?_, fun t p q => ?_⟩
  · by_cases hk : 0 ≤ k ∧ k < 20
    · rw [ivl_in hk.1 hk.2]; exact a3 k hk.1 hk.2
    · unfold ivl; rw [if_neg hk]; exact c3 k
  obtain ⟨b1, b2, b3, b4, b5, b6, b7, b8⟩ := a4 t p q
  obtain ⟨-, -, -, -, -, -, -, d8⟩ := c4 t p q
  obtain ⟨f1, f2⟩ := et t p q
  obtain ⟨g1, g2, g3⟩ := tc3_at (m (43 + 2 * t)) (m (17 + 2 * t))
  rw [f1, f2, g1, g2, g3, ivl_in p q, ivl_in p q, ivl_in p q]
  refine ⟨b1, b2, b3, fun i x y => by rw [cp4_at ⟨x, y⟩, ivl_in (by omega) (by omega)]; exact b4 i x y, b5, b6, b7, fun i => ?_⟩
  by_cases hi : 0 ≤ i ∧ i < 4
  · rw [cp4_at hi]; exact b8 i hi.1 hi.2
  · unfold cp4; rw [if_neg (by omega)]; exact d8 i
theorem ImN_new {m m2 : PM} (h : SeR m) (e : m2 81 47 = m 81 34) (eq : m2 31 3 = m 5 3) (en : ∀ i, 0 ≤ i → i < m 5 3 → m2 32 i = m 6 i ∧ m2 33 i = m 7 i ∧ m2 34 i = m 8 i) (ea : m2 116 = ivl (m 104) (m 116) 0 5) (eb : m2 117 = ivl (m 105) (m 117) 0 5) : ImN m2 := by
  obtain ⟨a1, a2, a3⟩ := h
  unfold ImN
  rw [e, eq, ea, eb]
  refine ⟨a1, a2, fun i p q => ?_⟩
  obtain ⟨b1, b2, b3⟩ := en i p (by rw [a2]; exact q)
  rw [b1, b2, b3, ivl_in p (by omega), ivl_in p (by omega)]
  exact a3 i p q
theorem ImB_new {m m2 : PM} (h : BoR m) (e : m2 81 49 = m 81 38) (eq : m2 39 3 = m 13 3) (en : ∀ i, 0 ≤ i → i < m 13 3 → m2 40 i = m 14 i ∧ m2 41 i = m 15 i ∧ m2 42 i = m 16 i) (ea : m2 121 = ivl (m 109) (m 121) 0 8) (eb : m2 122 = ivl (m 110) (m 122) 0 8) : ImB m2 := by
  obtain ⟨a1, a2, a3⟩ := h
  unfold ImB
  rw [e, eq, ea, eb]
  refine ⟨a1, a2, fun i p q => ?_⟩
  obtain ⟨b1, b2, b3⟩ := en i p (by rw [a2]; exact q)
  rw [b1, b2, b3, ivl_in p (by omega), ivl_in p (by omega)]
  exact a3 i p q
theorem SeR_back {m m2 : PM} (h : ImN m) (e : m2 81 34 = m 81 47) (eq : m2 5 3 = m 31 3) (en : ∀ i, 0 ≤ i → i < m 31 3 → m2 6 i = m 32 i ∧ m2 7 i = m 33 i ∧ m2 8 i = m 34 i) (ea : m2 104 = ivl (m 116) (m 104) 0 5) (eb : m2 105 = ivl (m 117) (m 105) 0 5) : SeR m2 := by
  obtain ⟨a1, a2, a3⟩ := h
  unfold SeR
  rw [e, eq, ea, eb]
  refine ⟨a1, a2, fun i p q => ?_⟩
  obtain ⟨b1, b2, b3⟩ := en i p (by rw [a2]; exact q)
  rw [b1, b2, b3, ivl_in p (by omega), ivl_in p (by omega)]
  exact a3 i p q
theorem BoR_back {m m2 : PM} (h : ImB m) (e : m2 81 38 = m 81 49) (eq : m2 13 3 = m 39 3) (en : ∀ i, 0 ≤ i → i < m 39 3 → m2 14 i = m 40 i ∧ m2 15 i = m 41 i ∧ m2 16 i = m 42 i) (ea : m2 109 = ivl (m 121) (m 109) 0 8) (eb : m2 110 = ivl (m 122) (m 110) 0 8) : BoR m2 := by
  obtain ⟨a1, a2, a3⟩ := h
  unfold BoR
  rw [e, eq, ea, eb]
  refine ⟨a1, a2, fun i p q => ?_⟩
  obtain ⟨b1, b2, b3⟩ := en i p (by rw [a2]; exact q)
  rw [b1, b2, b3, ivl_in p (by omega), ivl_in p (by omega)]
  exact a3 i p q
theorem ImP_new {m m2 : PM} (h : PlR m) (e : m2 81 48 = m 81 37) (et : m2 81 46 = m 81 0) (e5 : m2 81 5 = m 81 5) (eq : m2 35 3 = m 9 3) (en : ∀ i, 0 ≤ i → i < m 9 3 → m2 36 i = m 10 i ∧ m2 37 i = m 11 i ∧ m2 38 i = m 12 i) (ea : m2 118 = ivl (m 106) (m 118) 0 6) (eb : m2 119 = ivl (m 107) (m 119) 0 6) (ec : m2 120 = ivl (m 108) (m 120) 0 6) : ImP m2 := by
  obtain ⟨a1, a2, a3⟩ := h
  unfold ImP
  rw [e, et, e5, eq, ea, eb, ec]
  refine ⟨a1, a2, fun i p q => ?_⟩
  obtain ⟨b1, b2, b3⟩ := en i p (by rw [a2]; exact q)
  rw [b1, b2, b3, ivl_in p (by omega), ivl_in p (by omega), ivl_in p (by omega)]
  exact a3 i p q
theorem PlR_back {m m2 : PM} (h : ImP m) (e : m2 81 37 = m 81 48) (et : m2 81 0 = m 81 46) (e5 : m2 81 5 = m 81 5) (eq : m2 9 3 = m 35 3) (en : ∀ i, 0 ≤ i → i < m 35 3 → m2 10 i = m 36 i ∧ m2 11 i = m 37 i ∧ m2 12 i = m 38 i) (ea : m2 106 = ivl (m 118) (m 106) 0 6) (eb : m2 107 = ivl (m 119) (m 107) 0 6) (ec : m2 108 = ivl (m 120) (m 108) 0 6) : PlR m2 := by
  obtain ⟨a1, a2, a3⟩ := h
  unfold PlR
  rw [e, et, e5, eq, ea, eb, ec]
  refine ⟨a1, a2, fun i p q => ?_⟩
  obtain ⟨b1, b2, b3⟩ := en i p (by rw [a2]; exact q)
  rw [b1, b2, b3, ivl_in p (by omega), ivl_in p (by omega), ivl_in p (by omega)]
  exact a3 i p q
set_option maxHeartbeats 4000000 in
theorem p_image (m0 : PM) (L : Nat) : PairI m0 L 108 196 [.inr (.inr 0)] [.inr (.inr 81)] := by
  intro m dy h D W hD hW
  obtain ⟨hSt, hSc, hTr, hSe, hPl, hBo, hIm, hHm, hTx, hAc, hTp, hJb, hCo⟩ := h
  have u5 := hSe.1
  have u52 := hSe.2.1
  have u9 := hPl.1
  have u92 := hPl.2.1
  have u13 := hBo.1
  have u132 := hBo.2.1
  refine k_image (by omega) (by omega) (by omega) (by omega) (fun mA hC => ?_)
  refine hW _ _ _ (fun D2 W2 hD2 hW2 => ?_)
  refine c_image (by omega) (fun k a b => by rw [sA_ne (by omega), hC.1 99 (by omega)]; exact hSt.2.2.2.1 k) ?_
  refine q_eqI (hW2 _ ?_) (by rw [sA_ne (by omega), hC.1 81 (by omega)]; exact hSt.2.1)
  exact ⟨(StR_fr (fun a q1 q2 => by simp (disch := omega) only [sA_ne]; exact hC.1 a (by omega)) (fun a q1 q2 => by simp (disch := omega) only [sA_ne]; exact hC.1 a (by omega)) (fun a q1 q2 => by simp (disch := omega) only [sA_ne]; exact hC.1 a (by omega)) (by simp (disch := omega) only [sA_ne, sA_same, ud_ne]; rw [hC.1 _ (by omega)])  hSt), (ScR_fr (fun a q1 q2 => by simp (disch := omega) only [sA_ne]; exact hC.1 a (by omega)) (fun a q1 q2 => by simp (disch := omega) only [sA_ne]; exact hC.1 a (by omega)) (fun a q1 q2 => by simp (disch := omega) only [sA_ne]; exact hC.1 a (by omega)) (fun a q1 q2 => by simp (disch := omega) only [sA_ne]; exact hC.1 a (by omega)) (fun a q1 q2 => by simp (disch := omega) only [sA_ne]; exact hC.1 a (by omega))   hSc), (TrR_fr (fun a q1 q2 => by simp (disch := omega) only [sA_ne]; exact hC.1 a (by omega)) (fun a q1 q2 => by simp (disch := omega) only [sA_ne]; exact hC.1 a (by omega)) (by simp (disch := omega) only [sA_ne, sA_same, ud_ne]; rw [hC.1 _ (by omega)]) (by simp (disch := omega) only [sA_ne, sA_same, ud_ne]; rw [hC.1 _ (by omega)]) hTr), (SeR_fr (fun a q1 q2 => by simp (disch := omega) only [sA_ne]; exact hC.1 a (by omega)) (fun a q1 q2 => by simp (disch := omega) only [sA_ne]; exact hC.1 a (by omega)) (by simp (disch := omega) only [sA_ne, sA_same, ud_ne]; rw [hC.1 _ (by omega)])  hSe), (PlR_fr (fun a q1 q2 => by simp (disch := omega) only [sA_ne]; exact hC.1 a (by omega)) (fun a q1 q2 => by simp (disch := omega) only [sA_ne]; exact hC.1 a (by omega)) (by simp (disch := omega) only [sA_ne, sA_same, ud_ne]; rw [hC.1 _ (by omega)]) (by simp (disch := omega) only [sA_ne, sA_same, ud_ne]; rw [hC.1 _ (by omega)]) (by simp (disch := omega) only [sA_ne, sA_same, ud_ne]; rw [hC.1 _ (by omega)])  hPl), (BoR_fr (fun a q1 q2 => by simp (disch := omega) only [sA_ne]; exact hC.1 a (by omega)) (fun a q1 q2 => by simp (disch := omega) only [sA_ne]; exact hC.1 a (by omega)) (by simp (disch := omega) only [sA_ne, sA_same, ud_ne]; rw [hC.1 _ (by omega)])  hBo), (fun _ => ⟨(ImS_new hSt (by simp (disch := omega) only [sA_ne, sA_same, ud_eq, ud_ne]; (try rw [hC.1 81 (by omega)])) (by simp (disch := omega) only [sA_ne, sA_same, ud_eq, ud_ne]; exact hC.2.1) (by simp (disch := omega) only [sA_ne, sA_same, ud_eq, ud_ne]; exact hC.2.2.1) (by simp (disch := omega) only [sA_ne, sA_same, ud_eq, ud_ne]; (try rw [hC.1 99 (by omega), hC.1 123 (by omega)])) (by simp (disch := omega) only [sA_ne, sA_same, ud_eq, ud_ne]; (try rw [hC.1 96 (by omega), hC.1 111 (by omega)]))), (ImT_new hTr (by simp (disch := omega) only [sA_ne, sA_same, ud_eq, ud_ne]; (try rw [hC.1 81 (by omega)])) (by simp (disch := omega) only [sA_ne, sA_same, ud_eq, ud_ne]; exact hC.2.2.2.1) (by simp (disch := omega) only [sA_ne, sA_same, ud_eq, ud_ne]; (try rw [hC.1 82 (by omega), hC.1 112 (by omega)])) (by simp (disch := omega) only [sA_ne, sA_same, ud_eq, ud_ne]; (try rw [hC.1 83 (by omega), hC.1 113 (by omega)])) (by simp (disch := omega) only [sA_ne, sA_same, ud_eq, ud_ne]; (try rw [hC.1 84 (by omega), hC.1 114 (by omega)])) (by simp (disch := omega) only [sA_ne, sA_same, ud_eq, ud_ne]; (try rw [hC.1 85 (by omega), hC.1 115 (by omega)])) (fun t p q => by have w := hC.2.2.2.2.1 t p q; simp only [Int.reduceAdd, Int.add_zero] at w; simp (disch := omega) only [sA_ne]; exact w)), (ImN_new hSe (by simp (disch := omega) only [sA_ne, sA_same, ud_eq, ud_ne]; (try rw [hC.1 81 (by omega)])) (by simp (disch := omega) only [sA_ne, sA_same, ud_eq, ud_ne]; exact hC.2.2.2.2.2.1.1) (fun i p q => by simp (disch := omega) only [sA_ne]; exact hC.2.2.2.2.2.1.2 i p q) (by simp (disch := omega) only [sA_ne, sA_same, ud_eq, ud_ne]; (try rw [hC.1 104 (by omega), hC.1 116 (by omega)])) (by simp (disch := omega) only [sA_ne, sA_same, ud_eq, ud_ne]; (try rw [hC.1 105 (by omega), hC.1 117 (by omega)]))), (ImP_new hPl (by simp (disch := omega) only [sA_ne, sA_same, ud_eq, ud_ne]; (try rw [hC.1 81 (by omega)])) (by simp (disch := omega) only [sA_ne, sA_same, ud_eq, ud_ne]; (try rw [hC.1 81 (by omega)])) (by simp (disch := omega) only [sA_ne, sA_same, ud_eq, ud_ne]; (try rw [hC.1 81 (by omega)])) (by simp (disch := omega) only [sA_ne, sA_same, ud_eq, ud_ne]; exact hC.2.2.2.2.2.2.1.1) (fun i p q => by simp (disch := omega) only [sA_ne]; exact hC.2.2.2.2.2.2.1.2 i p q) (by simp (disch := omega) only [sA_ne, sA_same, ud_eq, ud_ne]; (try rw [hC.1 106 (by omega), hC.1 118 (by omega)])) (by simp (disch := omega) only [sA_ne, sA_same, ud_eq, ud_ne]; (try rw [hC.1 107 (by omega), hC.1 119 (by omega)])) (by simp (disch := omega) only [sA_ne, sA_same, ud_eq, ud_ne]; (try rw [hC.1 108 (by omega), hC.1 120 (by omega)]))), (ImB_new hBo (by simp (disch := omega) only [sA_ne, sA_same, ud_eq, ud_ne]; (try rw [hC.1 81 (by omega)])) (by simp (disch := omega) only [sA_ne, sA_same, ud_eq, ud_ne]; exact hC.2.2.2.2.2.2.2.1) (fun i p q => by simp (disch := omega) only [sA_ne]; exact hC.2.2.2.2.2.2.2.2 i p q) (by simp (disch := omega) only [sA_ne, sA_same, ud_eq, ud_ne]; (try rw [hC.1 109 (by omega), hC.1 121 (by omega)])) (by simp (disch := omega) only [sA_ne, sA_same, ud_eq, ud_ne]; (try rw [hC.1 110 (by omega), hC.1 122 (by omega)])))⟩), (by unfold HmR; simp (disch := omega) only [sA_ne, sA_same, ud_eq, ud_ne]; exact ⟨trivial, Or.inr trivial⟩), (TxR_fr (fun a q1 q2 => by simp (disch := omega) only [sA_ne]; exact hC.1 a (by omega)) (fun a q1 q2 => by simp (disch := omega) only [sA_ne]; exact hC.1 a (by omega)) (by simp (disch := omega) only [sA_ne, sA_same, ud_ne]; rw [hC.1 _ (by omega)]) (by simp (disch := omega) only [sA_ne, sA_same, ud_ne]; rw [hC.1 _ (by omega)]) hTx), (AcR_fr (fun a q1 q2 => by simp (disch := omega) only [sA_ne]; exact hC.1 a (by omega)) (fun a q1 q2 => by simp (disch := omega) only [sA_ne]; exact hC.1 a (by omega)) (by simp (disch := omega) only [sA_ne, sA_same, ud_ne]; rw [hC.1 _ (by omega)]) (by simp (disch := omega) only [sA_ne, sA_same, ud_ne]; rw [hC.1 _ (by omega)]) hAc), (TpR_fr (fun a q1 q2 => by simp (disch := omega) only [sA_ne]; exact hC.1 a (by omega)) (fun a q1 q2 => by simp (disch := omega) only [sA_ne]; exact hC.1 a (by omega))   hTp), (JbR_fr (fun a q1 => by simp (disch := omega) only [sA_ne]; exact hC.1 a (by omega)) (fun a q1 q2 => by simp (disch := omega) only [sA_ne]; exact hC.1 a (by omega)) (by simp (disch := omega) only [sA_ne, sA_same, ud_ne]; rw [hC.1 _ (by omega)]) (by simp (disch := omega) only [sA_ne, sA_same, ud_ne]; rw [hC.1 _ (by omega)]) (by simp (disch := omega) only [sA_ne, sA_same, ud_ne]; rw [hC.1 _ (by omega)]) hJb), (CoR_fr (fun a q1 => by simp (disch := omega) only [sA_ne]; exact hC.1 a (by omega)) (by simp (disch := omega) only [sA_ne, sA_same, ud_ne]; rw [hC.1 _ (by omega)]) hCo)⟩
set_option maxHeartbeats 4000000 in
theorem p_undo (m0 : PM) (L : Nat) : PairI m0 L 109 197 [.inr (.inr 0)] [.inr (.inr 81)] := by
  intro m dy h D W hD hW
  have hI := h
  obtain ⟨hSt, hSc, hTr, hSe, hPl, hBo, hIm, hHm, hTx, hAc, hTp, hJb, hCo⟩ := h
  have z1 := hHm.1
  have z2 := hHm.2
  refine k_undo (by omega) (by omega) (fun g => ?_) (fun g => ?_) (fun g => ?_) (fun g => ?_) (fun mA hC g => ?_)
  · have q := (hIm (by omega)).2.2.1
    have q1 := q.1
    have q2 := q.2.1
    omega
  · have q := (hIm (by omega)).2.2.2.1
    have q1 := q.1
    have q2 := q.2.1
    omega
  · have q := (hIm (by omega)).2.2.2.2
    have q1 := q.1
    have q2 := q.2.1
    omega
  · refine hW _ _ _ (fun D2 W2 hD2 hW2 => ?_)
    refine c_undo (by omega) z2 (fun g2 => by omega) (fun g2 => hW2 _ hI) (fun g2 => by omega)
  · obtain ⟨i1, i2, i3, i4, i5⟩ := hIm (by omega)
    have e44 : mA 81 44 = m 81 44 := by rw [hC.1 81 (by omega)]
    refine hW _ _ _ (fun D2 W2 hD2 hW2 => ?_)
    refine c_undo (by omega) (by omega) (fun g2 k a b => by rw [hC.1 123 (by omega)]; exact i1.2.2.2.1 k a b) (fun g2 => by omega) (fun g2 => ?_)
    refine q_eqI (hW2 _ ?_) (by rw [hC.1 81 (by omega)]; exact i1.2.1)
    exact ⟨(StR_back i1 hSt (by simp (disch := omega) only [sA_ne, sA_same, ud_eq, ud_ne]; (try rw [hC.1 81 (by omega)])) (by simp (disch := omega) only [sA_ne, sA_same, ud_eq, ud_ne]; exact hC.2.1) (by simp (disch := omega) only [sA_ne, sA_same, ud_eq, ud_ne]; exact hC.2.2.1) (by simp (disch := omega) only [sA_ne, sA_same, ud_eq, ud_ne]; (try rw [hC.1 99 (by omega), hC.1 123 (by omega)])) (by simp (disch := omega) only [sA_ne, sA_same, ud_eq, ud_ne]; (try rw [hC.1 96 (by omega), hC.1 111 (by omega)]))), (ScR_fr (fun a q1 q2 => by simp (disch := omega) only [sA_ne]; exact hC.1 a (by omega)) (fun a q1 q2 => by simp (disch := omega) only [sA_ne]; exact hC.1 a (by omega)) (fun a q1 q2 => by simp (disch := omega) only [sA_ne]; exact hC.1 a (by omega)) (fun a q1 q2 => by simp (disch := omega) only [sA_ne]; exact hC.1 a (by omega)) (fun a q1 q2 => by simp (disch := omega) only [sA_ne]; exact hC.1 a (by omega))   hSc), (TrR_back i2 hTr (by simp (disch := omega) only [sA_ne, sA_same, ud_eq, ud_ne]; (try rw [hC.1 81 (by omega)])) (by simp (disch := omega) only [sA_ne, sA_same, ud_eq, ud_ne]; exact hC.2.2.2.1) (by simp (disch := omega) only [sA_ne, sA_same, ud_eq, ud_ne]; (try rw [hC.1 82 (by omega), hC.1 112 (by omega)])) (by simp (disch := omega) only [sA_ne, sA_same, ud_eq, ud_ne]; (try rw [hC.1 83 (by omega), hC.1 113 (by omega)])) (by simp (disch := omega) only [sA_ne, sA_same, ud_eq, ud_ne]; (try rw [hC.1 84 (by omega), hC.1 114 (by omega)])) (by simp (disch := omega) only [sA_ne, sA_same, ud_eq, ud_ne]; (try rw [hC.1 85 (by omega), hC.1 115 (by omega)])) (fun t p q => by have w := hC.2.2.2.2.1 t p q; simp only [Int.reduceAdd, Int.add_zero] at w; simp (disch := omega) only [sA_ne]; exact w)), (SeR_back i3 (by simp (disch := omega) only [sA_ne, sA_same, ud_eq, ud_ne]; (try rw [hC.1 81 (by omega)])) (by simp (disch := omega) only [sA_ne, sA_same, ud_eq, ud_ne]; exact hC.2.2.2.2.2.1.1) (fun i p q => by simp (disch := omega) only [sA_ne]; exact hC.2.2.2.2.2.1.2 i p q) (by simp (disch := omega) only [sA_ne, sA_same, ud_eq, ud_ne]; (try rw [hC.1 104 (by omega), hC.1 116 (by omega)])) (by simp (disch := omega) only [sA_ne, sA_same, ud_eq, ud_ne]; (try rw [hC.1 105 (by omega), hC.1 117 (by omega)]))), (PlR_back i4 (by simp (disch := omega) only [sA_ne, sA_same, ud_eq, ud_ne]; (try rw [hC.1 81 (by omega)])) (by simp (disch := omega) only [sA_ne, sA_same, ud_eq, ud_ne]; (try rw [hC.1 81 (by omega)])) (by simp (disch := omega) only [sA_ne, sA_same, ud_eq, ud_ne]; (try rw [hC.1 81 (by omega)])) (by simp (disch := omega) only [sA_ne, sA_same, ud_eq, ud_ne]; exact hC.2.2.2.2.2.2.1.1) (fun i p q => by simp (disch := omega) only [sA_ne]; exact hC.2.2.2.2.2.2.1.2 i p q) (by simp (disch := omega) only [sA_ne, sA_same, ud_eq, ud_ne]; (try rw [hC.1 106 (by omega), hC.1 118 (by omega)])) (by simp (disch := omega) only [sA_ne, sA_same, ud_eq, ud_ne]; (try rw [hC.1 107 (by omega), hC.1 119 (by omega)])) (by simp (disch := omega) only [sA_ne, sA_same, ud_eq, ud_ne]; (try rw [hC.1 108 (by omega), hC.1 120 (by omega)]))), (BoR_back i5 (by simp (disch := omega) only [sA_ne, sA_same, ud_eq, ud_ne]; (try rw [hC.1 81 (by omega)])) (by simp (disch := omega) only [sA_ne, sA_same, ud_eq, ud_ne]; exact hC.2.2.2.2.2.2.2.1) (fun i p q => by simp (disch := omega) only [sA_ne]; exact hC.2.2.2.2.2.2.2.2 i p q) (by simp (disch := omega) only [sA_ne, sA_same, ud_eq, ud_ne]; (try rw [hC.1 109 (by omega), hC.1 121 (by omega)])) (by simp (disch := omega) only [sA_ne, sA_same, ud_eq, ud_ne]; (try rw [hC.1 110 (by omega), hC.1 122 (by omega)]))), (fun q => have qq := hIm (Eq.trans (Eq.symm (by simp (disch := omega) only [sA_ne, sA_same, ud_ne]; rw [hC.1 _ (by omega)])) q); ⟨(ImS_fr (fun a q1 q2 => by simp (disch := omega) only [sA_ne]; exact hC.1 a (by omega)) (fun a q1 q2 => by simp (disch := omega) only [sA_ne]; exact hC.1 a (by omega)) (fun a q1 q2 => by simp (disch := omega) only [sA_ne]; exact hC.1 a (by omega)) (by simp (disch := omega) only [sA_ne, sA_same, ud_ne]; rw [hC.1 _ (by omega)])  qq.1), (ImT_fr (fun a q1 q2 => by simp (disch := omega) only [sA_ne]; exact hC.1 a (by omega)) (fun a q1 q2 => by simp (disch := omega) only [sA_ne]; exact hC.1 a (by omega)) (by simp (disch := omega) only [sA_ne, sA_same, ud_ne]; rw [hC.1 _ (by omega)]) (by simp (disch := omega) only [sA_ne, sA_same, ud_ne]; rw [hC.1 _ (by omega)]) qq.2.1), (ImN_fr (fun a q1 q2 => by simp (disch := omega) only [sA_ne]; exact hC.1 a (by omega)) (fun a q1 q2 => by simp (disch := omega) only [sA_ne]; exact hC.1 a (by omega)) (by simp (disch := omega) only [sA_ne, sA_same, ud_ne]; rw [hC.1 _ (by omega)])  qq.2.2.1), (ImP_fr (fun a q1 q2 => by simp (disch := omega) only [sA_ne]; exact hC.1 a (by omega)) (fun a q1 q2 => by simp (disch := omega) only [sA_ne]; exact hC.1 a (by omega)) (by simp (disch := omega) only [sA_ne, sA_same, ud_ne]; rw [hC.1 _ (by omega)]) (by simp (disch := omega) only [sA_ne, sA_same, ud_ne]; rw [hC.1 _ (by omega)]) (by simp (disch := omega) only [sA_ne, sA_same, ud_ne]; rw [hC.1 _ (by omega)])  qq.2.2.2.1), (ImB_fr (fun a q1 q2 => by simp (disch := omega) only [sA_ne]; exact hC.1 a (by omega)) (fun a q1 q2 => by simp (disch := omega) only [sA_ne]; exact hC.1 a (by omega)) (by simp (disch := omega) only [sA_ne, sA_same, ud_ne]; rw [hC.1 _ (by omega)])  qq.2.2.2.2)⟩), (HmR_fr  (by simp (disch := omega) only [sA_ne, sA_same, ud_ne]; rw [hC.1 _ (by omega)]) (by simp (disch := omega) only [sA_ne, sA_same, ud_ne]; rw [hC.1 _ (by omega)]) hHm), (TxR_fr (fun a q1 q2 => by simp (disch := omega) only [sA_ne]; exact hC.1 a (by omega)) (fun a q1 q2 => by simp (disch := omega) only [sA_ne]; exact hC.1 a (by omega)) (by simp (disch := omega) only [sA_ne, sA_same, ud_ne]; rw [hC.1 _ (by omega)]) (by simp (disch := omega) only [sA_ne, sA_same, ud_ne]; rw [hC.1 _ (by omega)]) hTx), (AcR_fr (fun a q1 q2 => by simp (disch := omega) only [sA_ne]; exact hC.1 a (by omega)) (fun a q1 q2 => by simp (disch := omega) only [sA_ne]; exact hC.1 a (by omega)) (by simp (disch := omega) only [sA_ne, sA_same, ud_ne]; rw [hC.1 _ (by omega)]) (by simp (disch := omega) only [sA_ne, sA_same, ud_ne]; rw [hC.1 _ (by omega)]) hAc), (TpR_fr (fun a q1 q2 => by simp (disch := omega) only [sA_ne]; exact hC.1 a (by omega)) (fun a q1 q2 => by simp (disch := omega) only [sA_ne]; exact hC.1 a (by omega))   hTp), (JbR_fr (fun a q1 => by simp (disch := omega) only [sA_ne]; exact hC.1 a (by omega)) (fun a q1 q2 => by simp (disch := omega) only [sA_ne]; exact hC.1 a (by omega)) (by simp (disch := omega) only [sA_ne, sA_same, ud_ne]; rw [hC.1 _ (by omega)]) (by simp (disch := omega) only [sA_ne, sA_same, ud_ne]; rw [hC.1 _ (by omega)]) (by simp (disch := omega) only [sA_ne, sA_same, ud_ne]; rw [hC.1 _ (by omega)]) hJb), (CoR_fr (fun a q1 => by simp (disch := omega) only [sA_ne]; exact hC.1 a (by omega)) (by simp (disch := omega) only [sA_ne, sA_same, ud_ne]; rw [hC.1 _ (by omega)]) hCo)⟩
