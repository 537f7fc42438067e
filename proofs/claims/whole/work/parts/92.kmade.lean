/-! The class makes a job. -/
set_option maxHeartbeats 1000000 in
theorem k_copyOf {d : Nat} {io z : Int} {m : PM} {dy : List (Nat × Nat)} {L : Nat} {Q : Option PV → PS → Prop} (hd : 1 ≤ d) (hio : ioA io) (hz : 0 ≤ z ∧ z < 100) (o1 : ∀ f : Int → Int, (∀ i, 0 ≤ i → i < z → f i = m (io + 1) i) → Q (some (.inr (.inr ((129 + dy.length : Nat) : Int)))) (setA m ((129 + dy.length : Nat) : Int) f, (none, (dy ++ [(1, z.toNat)], L)))) : C d 229 [.inr (.inr (io + 1)), .inl z] (m, (none, (dy, L))) Q := by
  refine C_go (k := 0) hd xL_229 (fun d hd => ?_)
  show V d 229 (0, ([some (.inr (.inr (io + 1))), some (.inl z), none], ([], (m, (none, (dy, L)))))) Q
  have hq : io = 55 ∨ io = 57 := hio
  refine v_iload_n (n := 1) xB_229 dJ7_copyOf_59c91_0 rfl rfl ?_
  refine v_aload_n (n := 2) xB_229 dJ7_copyOf_59c91_1 rfl rfl ?_
  refine v_alen (n := 3) (lz := 100) xB_229 dJ7_copyOf_59c91_2 (sh_ioA hio _ _ _) (by decide) rfl rfl ?_
  refine v_ic_ne_y (t := 14) xB_229 dJ7_copyOf_59c91_3 (by decide) rfl (by first | omega | (simp only [sA_same, sA_s, ud_s, Int.reduceEq, if_true, if_false, ite_true, ite_false, ↓reduceIte, and_true, true_and, eq_self, Int.add_zero, Int.reduceAdd]; omega) | (simp (disch := omega) only [sA_same, sA_ne, ud_eq, ud_ne, Int.add_zero, Int.reduceAdd]; omega)) ?_
  refine v_iload_n (n := 15) xB_229 dJ7_copyOf_59c91_14 rfl rfl ?_
  refine v_newint (n := 17) xB_229 dJ7_copyOf_59c91_15 (by first | omega | (simp only [sA_same, sA_s, ud_s, Int.reduceEq, if_true, if_false, ite_true, ite_false, ↓reduceIte, and_true, true_and, eq_self, Int.add_zero, Int.reduceAdd]; omega) | (simp (disch := omega) only [sA_same, sA_ne, ud_eq, ud_ne, Int.add_zero, Int.reduceAdd]; omega)) rfl ?_
  refine v_astore_n2 (n := 18) xB_229 dJ7_copyOf_59c91_17 rfl rfl ?_
  refine v_aload_n (n := 19) xB_229 dJ7_copyOf_59c91_18 rfl rfl ?_
  refine v_iconst (n := 20) xB_229 dJ7_copyOf_59c91_19 ⟨by decide, by decide⟩ rfl ?_
  refine v_aload_n (n := 21) xB_229 dJ7_copyOf_59c91_20 rfl rfl ?_
  refine v_iconst (n := 22) xB_229 dJ7_copyOf_59c91_21 ⟨by decide, by decide⟩ rfl ?_
  refine v_aload_n (n := 23) xB_229 dJ7_copyOf_59c91_22 rfl rfl ?_
  refine v_alen (n := 24) (lz := 100) xB_229 dJ7_copyOf_59c91_23 (sh_ioA hio _ _ _) (by decide) rfl rfl ?_
  refine v_iload_n (n := 25) xB_229 dJ7_copyOf_59c91_24 rfl rfl ?_
  refine v_min (n := 28) xB_229 dJ7_copyOf_59c91_25 xO_229 sp_15_304 rfl rfl ?_
  refine v_acp (tb := 0) (n := 31) xB_229 dJ7_copyOf_59c91_28 xO_229 sp_15_150 (sh_ioA hio _ _ _) (sh_dyn' (by omega) dyS_at _ _) (by decide) (by first | omega | (simp only [sA_same, sA_s, ud_s, Int.reduceEq, if_true, if_false, ite_true, ite_false, ↓reduceIte, and_true, true_and, eq_self, Int.add_zero, Int.reduceAdd]; omega) | (simp (disch := omega) only [sA_same, sA_ne, ud_eq, ud_ne, Int.add_zero, Int.reduceAdd]; omega)) rfl rfl ?_
  refine v_aload_n (n := 32) xB_229 dJ7_copyOf_59c91_31 rfl rfl ?_
  refine v_areturn xB_229 dJ7_copyOf_59c91_32 xK_229 (by first | omega | (simp only [sA_same, sA_s, ud_s, Int.reduceEq, if_true, if_false, ite_true, ite_false, ↓reduceIte, and_true, true_and, eq_self, Int.add_zero, Int.reduceAdd]; omega) | (simp (disch := omega) only [sA_same, sA_ne, ud_eq, ud_ne, Int.add_zero, Int.reduceAdd]; omega)) ?_
  rw [sA_sA]
  refine o1 _ (fun i p q => ?_)
  (try dsimp only)
  rw [if_pos (by omega), sA_ne (by omega)]
  congr 1; omega
set_option maxHeartbeats 1000000 in
theorem k_jinit {d : Nat} {o a b u v : Int} {m : PM} {dy : List (Nat × Nat)} {L : Nat} {Q : Option PV → PS → Prop} (hd : 2 ≤ d) (ho : 129 ≤ o) (hs : dyS dy o = (0, 2)) (hu : 0 ≤ u ∧ 0 ≤ v) (o1 : Q (none) (setA m o (ud (ud (ud (ud (m o) 0 a) 1 b) 2 u) 3 v), (none, (dy, L)))) : C d 14 [.inr (.inr o), .inl a, .inl b, .inr (.inr u), .inr (.inr v)] (m, (none, (dy, L))) Q := by
  refine C_go (k := 1) hd xL_14 (fun d hd => ?_)
  show V d 14 (0, ([some (.inr (.inr o)), some (.inl a), some (.inl b), some (.inr (.inr u)), some (.inr (.inr v))], ([], (m, (none, (dy, L)))))) Q
  refine v_aload_n (n := 1) xB_14 dX2_init_0 rfl rfl ?_
  refine v_obj (n := 4) xB_14 dX2_init_1 xO_14 sp_2_3 (sh_dyn' ho hs _ _) (by omega) rfl rfl ?_
  refine v_aload_n (n := 5) xB_14 dX2_init_4 rfl rfl ?_
  refine v_iload_n (n := 6) xB_14 dX2_init_5 rfl rfl ?_
  refine v_pf_i (n := 9) (kz := 0) xB_14 dX2_init_6 xO_14 fl_2_9 fg_2_0 (Or.inr ⟨xI_14, xO_14⟩) (sh_dyn' ho hs _ _) (by omega) rfl rfl ?_
  (try simp (disch := omega) only [sA_same, sA_ne, sA_sA, sA_sr, sB_s, ud_eq, ud_ne, ud_ud, ud_sr, uB_s, Int.add_zero, Int.reduceAdd])
  refine v_aload_n (n := 10) xB_14 dX2_init_9 rfl rfl ?_
  refine v_iload_n (n := 11) xB_14 dX2_init_10 rfl rfl ?_
  refine v_pf_i (n := 14) (kz := 1) xB_14 dX2_init_11 xO_14 fl_2_15 fg_2_1 (Or.inr ⟨xI_14, xO_14⟩) (sh_dyn' ho hs _ _) (by omega) rfl rfl ?_
  (try simp (disch := omega) only [sA_same, sA_ne, sA_sA, sA_sr, sB_s, ud_eq, ud_ne, ud_ud, ud_sr, uB_s, Int.add_zero, Int.reduceAdd])
  refine v_aload_n (n := 15) xB_14 dX2_init_14 rfl rfl ?_
  refine v_aload_n (n := 16) xB_14 dX2_init_15 rfl rfl ?_
  refine v_pf_r (n := 19) (kz := 2) xB_14 dX2_init_16 xO_14 fl_2_18 fg_2_2 (Or.inr ⟨xI_14, xO_14⟩) (sh_dyn' ho hs _ _) (by omega) rfl (by first | omega | (simp only [sA_same, sA_s, ud_s, Int.reduceEq, if_true, if_false, ite_true, ite_false, ↓reduceIte, and_true, true_and, eq_self, Int.add_zero, Int.reduceAdd]; omega) | (simp (disch := omega) only [sA_same, sA_ne, ud_eq, ud_ne, Int.add_zero, Int.reduceAdd]; omega)) (st_dyn _ ho) rfl ?_
  (try simp (disch := omega) only [sA_same, sA_ne, sA_sA, sA_sr, sB_s, ud_eq, ud_ne, ud_ud, ud_sr, uB_s, Int.add_zero, Int.reduceAdd])
  refine v_aload_n (n := 20) xB_14 dX2_init_19 rfl rfl ?_
  refine v_aload (n := 22) xB_14 dX2_init_20 rfl rfl ?_
  refine v_pf_r (n := 25) (kz := 3) xB_14 dX2_init_22 xO_14 fl_2_22 fg_2_3 (Or.inr ⟨xI_14, xO_14⟩) (sh_dyn' ho hs _ _) (by omega) rfl (by first | omega | (simp only [sA_same, sA_s, ud_s, Int.reduceEq, if_true, if_false, ite_true, ite_false, ↓reduceIte, and_true, true_and, eq_self, Int.add_zero, Int.reduceAdd]; omega) | (simp (disch := omega) only [sA_same, sA_ne, ud_eq, ud_ne, Int.add_zero, Int.reduceAdd]; omega)) (st_dyn _ ho) rfl ?_
  (try simp (disch := omega) only [sA_same, sA_ne, sA_sA, sA_sr, sB_s, ud_eq, ud_ne, ud_ud, ud_sr, uB_s, Int.add_zero, Int.reduceAdd])
  refine v_return xB_14 dX2_init_25 xK_14 ?_
  (try simp (disch := omega) only [sA_same, sA_ne, sA_sA, sA_sr, sB_s, ud_eq, ud_ne, ud_ud, ud_sr, uB_s, Int.add_zero, Int.reduceAdd])
  exact o1
set_option maxHeartbeats 1000000 in
theorem k_made {d : Nat} {CL : CLs} {m : PM} {dy : List (Nat × Nat)} {L : Nat} {Q : Option PV → PS → Prop} (hd : 4 ≤ d) (h3 : m 53 3 = frW CL) (h4 : m 53 4 = tlW CL) (h5 : m 55 1 = (stW CL 2).length ∧ LA (m 56) 0 (stW CL 2)) (h7 : m 57 1 = (stW CL 3).length ∧ LA (m 58) 0 (stW CL 3)) (hl : (stW CL 2).length < 100 ∧ (stW CL 3).length < 100) (hok : okCL CL) (o1 : ∀ m' : PM, (∀ a : Int, a < ((129 + dy.length : Nat) : Int) → m' a = m a) → JC m' (((dy ++ [(0, 2)]) ++ [(1, (stW CL 2).length)]) ++ [(1, (stW CL 3).length)]) ((129 + dy.length : Nat) : Int) CL → Q (some (.inr (.inr ((129 + dy.length : Nat) : Int)))) (m', (none, ((((dy ++ [(0, 2)]) ++ [(1, (stW CL 2).length)]) ++ [(1, (stW CL 3).length)]), L)))) : C d 41 [.inr (.inr 53)] (m, (none, (dy, L))) Q := by
  refine C_go (k := 3) hd xL_41 (fun d hd => ?_)
  show V d 41 (0, ([some (.inr (.inr 53))], ([], (m, (none, (dy, L)))))) Q
  have hN1 : ((129 + (dy ++ [((0, 2) : Nat × Nat)]).length : Nat) : Int) = 129 + dy.length + 1 := by rw [List.length_append, List.length_singleton]; omega
  have hN2 : ((129 + ((dy ++ [((0, 2) : Nat × Nat)]) ++ [(1, (stW CL 2).length)]).length : Nat) : Int) = 129 + dy.length + 2 := by rw [List.length_append, List.length_append, List.length_singleton, List.length_singleton]; omega
  refine v_new (n := 3) xB_41 dX5_made_0 xO_41 nw_5_32 rfl rfl ?_
  refine v_dup (n := 4) xB_41 dX5_made_3 rfl rfl ?_
  refine v_aload_n (n := 5) xB_41 dX5_made_4 rfl rfl ?_
  refine v_gf_i (n := 8) (kz := 3) xB_41 dX5_made_5 xO_41 fl_5_34 fg_5_3 rfl (sh_53 _ _ _) rfl rfl ?_
  refine v_aload_n (n := 9) xB_41 dX5_made_8 rfl rfl ?_
  refine v_gf_i (n := 12) (kz := 4) xB_41 dX5_made_9 xO_41 fl_5_37 fg_5_4 rfl (sh_53 _ _ _) rfl rfl ?_
  refine v_aload_n (n := 13) xB_41 dX5_made_12 rfl rfl ?_
  refine v_gf_s (n := 16) (kz := 5) xB_41 dX5_made_13 xO_41 fl_5_18 fg_5_5 (sh_53 _ _ _) rfl st_53_5 rfl ?_
  refine v_gf_s (n := 19) (kz := 0) xB_41 dX5_made_16 xO_41 fl_5_40 fg_7_0 (sh_55 _ _ _) rfl st_55_0 rfl ?_
  refine v_aload_n (n := 20) xB_41 dX5_made_19 rfl rfl ?_
  refine v_gf_s (n := 23) (kz := 5) xB_41 dX5_made_20 xO_41 fl_5_18 fg_5_5 (sh_53 _ _ _) rfl st_53_5 rfl ?_
  refine v_gf_i (n := 26) (kz := 1) xB_41 dX5_made_23 xO_41 fl_5_43 fg_7_1 rfl (sh_55 _ _ _) rfl rfl ?_
  (try simp (disch := omega) only [sA_same, sA_ne, sA_sA, sA_sr, sB_s, ud_eq, ud_ne, ud_ud, ud_sr, uB_s, Int.add_zero, Int.reduceAdd])
  rw [h5.1]
  refine v_call_s (n := 29) xB_41 dX5_made_26 xO_41 sp_5_46 (Or.inl rfl) iv_5_46 rfl rfl rfl rfl ?_
  refine k_copyOf (io := 55) (z := ((stW CL 2).length : Int)) (by omega) (Or.inl rfl) (by omega) (fun fA hfA => ?_)
  rw [show (((stW CL 2).length : Nat) : Int).toNat = (stW CL 2).length by omega] at *
  refine v_aload_n (n := 30) xB_41 dX5_made_29 rfl rfl ?_
  refine v_gf_s (n := 33) (kz := 6) xB_41 dX5_made_30 xO_41 fl_5_22 fg_5_6 (sh_53 _ _ _) rfl st_53_6 rfl ?_
  refine v_gf_s (n := 36) (kz := 0) xB_41 dX5_made_33 xO_41 fl_5_40 fg_7_0 (sh_57 _ _ _) rfl st_57_0 rfl ?_
  refine v_aload_n (n := 37) xB_41 dX5_made_36 rfl rfl ?_
  refine v_gf_s (n := 40) (kz := 6) xB_41 dX5_made_37 xO_41 fl_5_22 fg_5_6 (sh_53 _ _ _) rfl st_53_6 rfl ?_
  refine v_gf_i (n := 43) (kz := 1) xB_41 dX5_made_40 xO_41 fl_5_43 fg_7_1 rfl (sh_57 _ _ _) rfl rfl ?_
  (try simp (disch := omega) only [sA_same, sA_ne, sA_sA, sA_sr, sB_s, ud_eq, ud_ne, ud_ud, ud_sr, uB_s, Int.add_zero, Int.reduceAdd])
  rw [h7.1]
  refine v_call_s (n := 46) xB_41 dX5_made_43 xO_41 sp_5_46 (Or.inl rfl) iv_5_46 rfl rfl rfl rfl ?_
  refine k_copyOf (io := 57) (z := ((stW CL 3).length : Int)) (by omega) (Or.inr rfl) (by omega) (fun fB hfB => ?_)
  rw [show (((stW CL 3).length : Nat) : Int).toNat = (stW CL 3).length by omega] at *
  refine v_call_p2 (n := 49) xB_41 dX5_made_46 xO_41 sp_5_52 rfl iv_5_52 rfl (sh_dyn' (by omega) (dyS_ap (dyS_ap dyS_at (by decide)) (by decide)) _ _) rfl rfl rfl ?_
  refine k_jinit (by omega) (by omega) (dyS_ap (dyS_ap dyS_at (by decide)) (by decide)) ⟨by omega, by omega⟩ ?_
  refine v_areturn xB_41 dX5_made_49 xK_41 (by omega) ?_
  simp (disch := omega) only [sA_ne, sA_same, Int.reduceAdd] at hfA hfB
  (try simp (disch := omega) only [sA_same, sA_ne, sA_sA, sA_sr, sB_s, ud_eq, ud_ne, ud_ud, ud_sr, uB_s, Int.add_zero, Int.reduceAdd])
  have hfA2 : ∀ i, 0 ≤ i → i < ((stW CL 2).length : Int) → fA i = m 56 i := hfA
  have hfB2 : ∀ i, 0 ≤ i → i < ((stW CL 3).length : Int) → fB i = m 58 i := hfB
  refine o1 _ (fun a ha => by simp (disch := omega) only [sA_ne]) ?_
  unfold JC
  simp (disch := omega) only [sA_ne, sA_same, ud_eq, ud_ne]
  exact ⟨⟨by omega, (dyS_ap (dyS_ap dyS_at (by decide)) (by decide)), h3, h4⟩, ⟨by omega, (dyS_ap dyS_at (by simp)), LA_fr _ _ h5.2 (fun i p q => hfA2 i p (by omega)), by omega⟩, ⟨by omega, dyS_at, LA_fr _ _ h7.2 (fun i p q => hfB2 i p (by omega)), by omega⟩, hok⟩
