/-! The class reads an E: its levels. -/
theorem Rd_m {m m' : PM} {io a' : Int} {S : List Int} (hI : RdI m io) (h : Rd m m' io a' S) : m' 54 = m 54 ∧ m' 53 1 = m 53 1 ∧ m' 53 2 = a' ∧ m' 53 7 = io ∧ m' io 1 = m io 1 + S.length := by
  obtain ⟨a1, a2, a3, a4, a5, a6, a7⟩ := hI
  unfold ioA at a4
  exact ⟨h.1.1 54 (by omega) (by omega) (by omega), h.1.2.1 1 (by omega), h.1.2.2.1, (h.1.2.1 7 (by omega)).trans a5, h.2.1⟩
theorem Rf_m {m m' : PM} {io a' : Int} (hI : RdI m io) (h : Rf m m' io a') : m' 54 = m 54 ∧ m' 53 1 = m 53 1 ∧ m' 53 2 = a' := by
  obtain ⟨a1, a2, a3, a4, a5, a6, a7⟩ := hI
  unfold ioA at a4
  exact ⟨h.1 54 (by omega) (by omega) (by omega), h.2.1 1 (by omega), h.2.2.1⟩
set_option maxHeartbeats 1000000 in
theorem vk_lpall {d : Nat} {m : PM} {dy : List (Nat × Nat)} {L : Nat} {io : Int} {Q : Option PV → PS → Prop} {D : Nat} {dep : Int} {f : (Int → Int) → Int → Int → RR} (hd : D + 2 ≤ d) (hF : SpecB 47 D dep f) (hok : ∀ (T : Int → Int) (n a : Int), a ≤ n → okR n a (f T n a)) (hK : KT m) (hI : RdI m io) : ∀ (fu : Nat) (r : RR) (m' : PM), r.1 = true → m 53 1 - r.2.1 < fu → okR (m 53 1) (m 53 2) r → Rd m m' io r.2.1 r.2.2 → ((lp (f (m 54) (m 53 1)) (m 54) (m 53 1) 38 (-2) fu r).1 = true → ∀ m' : PM, Rd m m' io (lp (f (m 54) (m 53 1)) (m 54) (m 53 1) 38 (-2) fu r).2.1 (lp (f (m 54) (m 53 1)) (m 54) (m 53 1) 38 (-2) fu r).2.2 → Q (some (.inl 1)) (m', (none, (dy, L)))) → ((lp (f (m 54) (m 53 1)) (m 54) (m 53 1) 38 (-2) fu r).1 = false → ∀ m' : PM, Rf m m' io (lp (f (m 54) (m 53 1)) (m 54) (m 53 1) 38 (-2) fu r).2.1 → Q (some (.inl 0)) (m', (none, (dy, L)))) → V d 46 (10, ([some (.inr (.inr 53)), some (.inl dep)], ([], (m', (none, (dy, L)))))) Q := by
  intro fu
  induction fu with
  | zero =>
    intro r m' h1 h2 hk hR go no
    obtain ⟨k1, k2, k3, k4⟩ := hk
    omega
  | succ fu ih =>
    intro r m' h1 h2 hk hR go no
    obtain ⟨k1, k2, k3, k4⟩ := hk
    have hI0 := hI
    obtain ⟨a1, a2, a3, a4, a5, a6, a7⟩ := hI0
    have hio := a4
    unfold ioA at hio
    have hI2 := RdI_d hI hR k1 k2 (by omega)
    have hK2 := KT_d hK a4 hR.1
    obtain ⟨e54, e1, e2, e7, ez⟩ := Rd_m hI hR
    by_cases hb : nxt (m 54) (m 53 1) r.2.1 = 38
    · have hin := nxt_in hb (by omega)
      have hx : m' 54 (m' 53 2) = 38 := by rw [e54, e2, ← hb]; exact (nx_t hin).symm
      obtain ⟨j1, j2, j3, j4⟩ := hok (m 54) (m 53 1) (r.2.1 + 1) (by omega)
      have hAt : Rd m' (setA m' 53 (ud (m' 53) 2 (m' 53 2 + 1))) io (m' 53 2 + 1) [] := Rd_at a4 rfl
      have hI3 := RdI_d hI2 hAt (by omega) (by omega) (by rw [List.length_nil]; omega)
      have hK3 := KT_d hK2 a4 hAt.1
      refine v_aload_n (n := 11) xB_46 dX5_allOf_10 rfl rfl ?_
      refine v_gf_i (n := 14) (kz := 2) xB_46 dX5_allOf_11 xO_46 fl_5_28 fg_5_2 rfl (sh_53 _ _ _) rfl rfl ?_
      refine v_aload_n (n := 15) xB_46 dX5_allOf_14 rfl rfl ?_
      refine v_gf_i (n := 18) (kz := 1) xB_46 dX5_allOf_15 xO_46 fl_5_59 fg_5_1 rfl (sh_53 _ _ _) rfl rfl ?_
      refine v_ic_ge_n (n := 21) xB_46 dX5_allOf_18 (by decide) rfl (by first | omega | (simp only [sA_same, sA_s, ud_s, Int.reduceEq, if_true, if_false, ite_true, ite_false, ↓reduceIte, and_true, true_and, eq_self, Int.add_zero, Int.reduceAdd]; omega) | (simp (disch := omega) only [sA_same, sA_ne, ud_eq, ud_ne, Int.add_zero, Int.reduceAdd]; omega)) ?_
      refine v_aload_n (n := 22) xB_46 dX5_allOf_21 rfl rfl ?_
      refine v_gf_s (n := 25) (kz := 0) xB_46 dX5_allOf_22 xO_46 fl_5_9 fg_5_0 (sh_53 _ _ _) rfl st_53_0 rfl ?_
      refine v_aload_n (n := 26) xB_46 dX5_allOf_25 rfl rfl ?_
      refine v_gf_i (n := 29) (kz := 2) xB_46 dX5_allOf_26 xO_46 fl_5_28 fg_5_2 rfl (sh_53 _ _ _) rfl rfl ?_
      refine v_iaload (n := 30) (lz := 100) xB_46 dX5_allOf_29 (sh_54 _ _ _) rfl (by first | omega | (simp only [sA_same, sA_s, ud_s, Int.reduceEq, if_true, if_false, ite_true, ite_false, ↓reduceIte, and_true, true_and, eq_self, Int.add_zero, Int.reduceAdd]; omega) | (simp (disch := omega) only [sA_same, sA_ne, ud_eq, ud_ne, Int.add_zero, Int.reduceAdd]; omega)) rfl ?_
      refine v_bipush (n := 32) xB_46 dX5_allOf_30 ⟨by decide, by decide⟩ rfl ?_
      refine v_ic_ne_n (n := 35) xB_46 dX5_allOf_32 (by decide) rfl (by first | omega | (simp only [sA_same, sA_s, ud_s, Int.reduceEq, if_true, if_false, ite_true, ite_false, ↓reduceIte, and_true, true_and, eq_self, Int.add_zero, Int.reduceAdd]; omega) | (simp (disch := omega) only [sA_same, sA_ne, ud_eq, ud_ne, Int.add_zero, Int.reduceAdd]; omega)) ?_
      refine v_aload_n (n := 36) xB_46 dX5_allOf_35 rfl rfl ?_
      refine v_dup (n := 37) xB_46 dX5_allOf_36 rfl rfl ?_
      refine v_gf_i (n := 40) (kz := 2) xB_46 dX5_allOf_37 xO_46 fl_5_28 fg_5_2 rfl (sh_53 _ _ _) rfl rfl ?_
      refine v_iconst (n := 41) xB_46 dX5_allOf_40 ⟨by decide, by decide⟩ rfl ?_
      refine v_iadd (n := 42) xB_46 dX5_allOf_41 (by first | omega | (simp only [sA_same, sA_s, ud_s, Int.reduceEq, if_true, if_false, ite_true, ite_false, ↓reduceIte, and_true, true_and, eq_self, Int.add_zero, Int.reduceAdd]; omega) | (simp (disch := omega) only [sA_same, sA_ne, ud_eq, ud_ne, Int.add_zero, Int.reduceAdd]; omega)) rfl ?_
      refine v_pf_i (n := 45) (kz := 2) xB_46 dX5_allOf_42 xO_46 fl_5_28 fg_5_2 (Or.inl fn_5_2) (sh_53 _ _ _) (by decide) rfl rfl ?_
      (try simp (disch := omega) only [sA_same, sA_ne, sA_sA, sA_sr, sB_s, ud_eq, ud_ne, ud_ud, ud_sr, uB_s, Int.add_zero, Int.reduceAdd])
      refine v_aload_n (n := 46) xB_46 dX5_allOf_45 rfl rfl ?_
      refine v_iload_n (n := 47) xB_46 dX5_allOf_46 rfl rfl ?_
      refine v_call_v (n := 50) xB_46 dX5_allOf_47 xO_46 iv_5_93 rfl (sh_53 _ _ _) rfl rfl rfl ?_
      refine hF (by omega) hK3 hI3 (fun gE mA hA => ?_) (fun gE mA hA => ?_)
      · obtain ⟨g54, g1, g2, g7, gz⟩ := Rd_m hI3 hA
        (try simp (disch := omega) only [sA_same, sA_ne, sA_sA, sA_sr, sB_s, ud_eq, ud_ne, ud_ud, ud_sr, uB_s, Int.add_zero, Int.reduceAdd] at gE hA)
        rw [e54, e1, e2] at gE hA
        rw [e2] at hAt
        have hR2 := Rd_trans (Rd_trans hR hAt) hA
        have gz2 := hR2.2.1
        have g22 := hR2.1.2.2.1
        have g11 := hR2.1.2.1 1 (by omega)
        rw [List.length_append, List.append_nil] at gz2
        rw [lp_go h1 hb gE] at go no
        refine v_if_ne_y (t := 55) xB_46 dX5_allOf_50 (by decide) rfl (by decide) ?_
        refine v_aload_n (n := 56) xB_46 dX5_allOf_55 rfl rfl ?_
        refine v_gf_d (n := 59) (kz := 7) xB_46 dX5_allOf_56 xO_46 fl_5_25 fg_5_7 (sh_53 _ _ _) rfl st_53_7 rfl ?_
        rw [g7]
        refine v_bipush (n := 61) xB_46 dX5_allOf_59 ⟨by decide, by decide⟩ rfl ?_
        refine v_call_v (n := 64) xB_46 dX5_allOf_61 xO_46 iv_5_74 rfl (sh_io hio _ _ _) rfl rfl rfl ?_
        refine k_stepadd (by omega) a4 (by omega) ?_
        (try simp (disch := omega) only [sA_same, sA_ne, sA_sA, sA_sr, sB_s, ud_eq, ud_ne, ud_ud, ud_sr, uB_s, Int.add_zero, Int.reduceAdd])
        refine v_goto (t := 10) xB_46 dX5_allOf_64 (by decide) rfl ?_
        have hAd := Rd_trans hR2 (Rd_add (m := mA) (z := -2) a4 rfl)
        rw [List.append_nil, g22] at hAd
        exact ih (true, ((f (m 54) (m 53 1) (r.2.1 + 1)).2.1, r.2.2 ++ (f (m 54) (m 53 1) (r.2.1 + 1)).2.2 ++ [-2])) _ rfl (by dsimp only; omega) ⟨by dsimp only; omega, j2, by dsimp only; rw [List.length_append, List.length_append, List.length_singleton]; omega, fun _ => by dsimp only; omega⟩ hAd go no
      · (try simp (disch := omega) only [sA_same, sA_ne, sA_sA, sA_sr, sB_s, ud_eq, ud_ne, ud_ud, ud_sr, uB_s, Int.add_zero, Int.reduceAdd] at gE hA)
        rw [e54, e1, e2] at gE hA
        rw [e2] at hAt
        rw [lp_no h1 hb gE] at no
        refine v_if_ne_n (n := 53) xB_46 dX5_allOf_50 (by decide) rfl (by decide) ?_
        refine v_iconst (n := 54) xB_46 dX5_allOf_53 ⟨by decide, by decide⟩ rfl ?_
        refine v_ireturn1 xB_46 dX5_allOf_54 xK_46 (by decide) ?_
        exact no rfl _ (Rf_trans hR.1 (Rf_trans hAt.1 hA))
    · have hx : m' 53 2 < m' 53 1 → m' 54 (m' 53 2) ≠ 38 := fun h => by rw [e54, e2]; rw [e2, e1] at h; rw [nx_t h] at hb; exact hb
      rw [lp_end hb] at go
      refine v_aload_n (n := 11) xB_46 dX5_allOf_10 rfl rfl ?_
      refine v_gf_i (n := 14) (kz := 2) xB_46 dX5_allOf_11 xO_46 fl_5_28 fg_5_2 rfl (sh_53 _ _ _) rfl rfl ?_
      refine v_aload_n (n := 15) xB_46 dX5_allOf_14 rfl rfl ?_
      refine v_gf_i (n := 18) (kz := 1) xB_46 dX5_allOf_15 xO_46 fl_5_59 fg_5_1 rfl (sh_53 _ _ _) rfl rfl ?_
      refine v_ic_ge (t := 67) (n := 21) xB_46 dX5_allOf_18 (by decide) rfl rfl (fun g1 => ?_) (fun g1 => ?_)
      · refine v_iconst (n := 68) xB_46 dX5_allOf_67 ⟨by decide, by decide⟩ rfl ?_
        refine v_ireturn1 xB_46 dX5_allOf_68 xK_46 (by decide) ?_
        exact go h1 _ hR
      · refine v_aload_n (n := 22) xB_46 dX5_allOf_21 rfl rfl ?_
        refine v_gf_s (n := 25) (kz := 0) xB_46 dX5_allOf_22 xO_46 fl_5_9 fg_5_0 (sh_53 _ _ _) rfl st_53_0 rfl ?_
        refine v_aload_n (n := 26) xB_46 dX5_allOf_25 rfl rfl ?_
        refine v_gf_i (n := 29) (kz := 2) xB_46 dX5_allOf_26 xO_46 fl_5_28 fg_5_2 rfl (sh_53 _ _ _) rfl rfl ?_
        refine v_iaload (n := 30) (lz := 100) xB_46 dX5_allOf_29 (sh_54 _ _ _) rfl (by first | omega | (simp only [sA_same, sA_s, ud_s, Int.reduceEq, if_true, if_false, ite_true, ite_false, ↓reduceIte, and_true, true_and, eq_self, Int.add_zero, Int.reduceAdd]; omega) | (simp (disch := omega) only [sA_same, sA_ne, ud_eq, ud_ne, Int.add_zero, Int.reduceAdd]; omega)) rfl ?_
        refine v_bipush (n := 32) xB_46 dX5_allOf_30 ⟨by decide, by decide⟩ rfl ?_
        refine v_ic_ne_y (t := 67) xB_46 dX5_allOf_32 (by decide) rfl (by first | omega | (simp only [sA_same, sA_s, ud_s, Int.reduceEq, if_true, if_false, ite_true, ite_false, ↓reduceIte, and_true, true_and, eq_self, Int.add_zero, Int.reduceAdd]; omega) | (simp (disch := omega) only [sA_same, sA_ne, ud_eq, ud_ne, Int.add_zero, Int.reduceAdd]; omega)) ?_
        refine v_iconst (n := 68) xB_46 dX5_allOf_67 ⟨by decide, by decide⟩ rfl ?_
        refine v_ireturn1 xB_46 dX5_allOf_68 xK_46 (by decide) ?_
        exact go h1 _ hR
set_option maxHeartbeats 1000000 in
theorem k_allOf {D : Nat} {dep : Int} {f : (Int → Int) → Int → Int → RR} (hF : SpecB 47 D dep f) (hok : ∀ (T : Int → Int) (n a : Int), a ≤ n → okR n a (f T n a)) : SpecB 46 (D + 3) dep (fun T n a => allF (f T n) T n a) := by
  intro d m dy L io Q hd hK hI o1 o2
  refine C_go (k := D + 2) hd xL_46 (fun d hd => ?_)
  show V d 46 (0, ([some (.inr (.inr 53)), some (.inl dep)], ([], (m, (none, (dy, L)))))) Q
  have hk := hok (m 54) (m 53 1) (m 53 2) hI.2.1.2
  have hn := hI.1
  have ha := hI.2.1
  refine v_aload_n (n := 1) xB_46 dX5_allOf_0 rfl rfl ?_
  refine v_iload_n (n := 2) xB_46 dX5_allOf_1 rfl rfl ?_
  refine v_call_v (n := 5) xB_46 dX5_allOf_2 xO_46 iv_5_93 rfl (sh_53 _ _ _) rfl rfl rfl ?_
  refine hF (by omega) hK hI (fun gE mA hA => ?_) (fun gE mA hA => ?_)
  · refine v_if_ne_y (t := 10) xB_46 dX5_allOf_5 (by decide) rfl (by decide) ?_
    exact vk_lpall hd hF hok hK hI 200 (f (m 54) (m 53 1) (m 53 2)) mA gE (by have := hk.1; omega) hk hA o1 o2
  · refine v_if_ne_n (n := 8) xB_46 dX5_allOf_5 (by decide) rfl (by decide) ?_
    refine v_iconst (n := 9) xB_46 dX5_allOf_8 ⟨by decide, by decide⟩ rfl ?_
    refine v_ireturn1 xB_46 dX5_allOf_9 xK_46 (by decide) ?_
    have e : lp (f (m 54) (m 53 1)) (m 54) (m 53 1) 38 (-2) 200 (f (m 54) (m 53 1) (m 53 2)) = f (m 54) (m 53 1) (m 53 2) := lp_f gE
    exact o2 (by show (lp (f (m 54) (m 53 1)) (m 54) (m 53 1) 38 (-2) 200 (f (m 54) (m 53 1) (m 53 2))).1 = false; rw [e]; exact gE) _ (by show Rf m mA io (lp (f (m 54) (m 53 1)) (m 54) (m 53 1) 38 (-2) 200 (f (m 54) (m 53 1) (m 53 2))).2.1; rw [e]; exact hA)
set_option maxHeartbeats 1000000 in
theorem vk_lpany {d : Nat} {m : PM} {dy : List (Nat × Nat)} {L : Nat} {io : Int} {Q : Option PV → PS → Prop} {D : Nat} {dep : Int} {f : (Int → Int) → Int → Int → RR} (hd : D + 2 ≤ d) (hF : SpecB 46 D dep f) (hok : ∀ (T : Int → Int) (n a : Int), a ≤ n → okR n a (f T n a)) (hK : KT m) (hI : RdI m io) : ∀ (fu : Nat) (r : RR) (m' : PM), r.1 = true → m 53 1 - r.2.1 < fu → okR (m 53 1) (m 53 2) r → Rd m m' io r.2.1 r.2.2 → ((lp (f (m 54) (m 53 1)) (m 54) (m 53 1) 124 (-3) fu r).1 = true → ∀ m' : PM, Rd m m' io (lp (f (m 54) (m 53 1)) (m 54) (m 53 1) 124 (-3) fu r).2.1 (lp (f (m 54) (m 53 1)) (m 54) (m 53 1) 124 (-3) fu r).2.2 → Q (some (.inl 1)) (m', (none, (dy, L)))) → ((lp (f (m 54) (m 53 1)) (m 54) (m 53 1) 124 (-3) fu r).1 = false → ∀ m' : PM, Rf m m' io (lp (f (m 54) (m 53 1)) (m 54) (m 53 1) 124 (-3) fu r).2.1 → Q (some (.inl 0)) (m', (none, (dy, L)))) → V d 45 (10, ([some (.inr (.inr 53)), some (.inl dep)], ([], (m', (none, (dy, L)))))) Q := by
  intro fu
  induction fu with
  | zero =>
    intro r m' h1 h2 hk hR go no
    obtain ⟨k1, k2, k3, k4⟩ := hk
    omega
  | succ fu ih =>
    intro r m' h1 h2 hk hR go no
    obtain ⟨k1, k2, k3, k4⟩ := hk
    have hI0 := hI
    obtain ⟨a1, a2, a3, a4, a5, a6, a7⟩ := hI0
    have hio := a4
    unfold ioA at hio
    have hI2 := RdI_d hI hR k1 k2 (by omega)
    have hK2 := KT_d hK a4 hR.1
    obtain ⟨e54, e1, e2, e7, ez⟩ := Rd_m hI hR
    by_cases hb : nxt (m 54) (m 53 1) r.2.1 = 124
    · have hin := nxt_in hb (by omega)
      have hx : m' 54 (m' 53 2) = 124 := by rw [e54, e2, ← hb]; exact (nx_t hin).symm
      obtain ⟨j1, j2, j3, j4⟩ := hok (m 54) (m 53 1) (r.2.1 + 1) (by omega)
      have hAt : Rd m' (setA m' 53 (ud (m' 53) 2 (m' 53 2 + 1))) io (m' 53 2 + 1) [] := Rd_at a4 rfl
      have hI3 := RdI_d hI2 hAt (by omega) (by omega) (by rw [List.length_nil]; omega)
      have hK3 := KT_d hK2 a4 hAt.1
      refine v_aload_n (n := 11) xB_45 dX5_anyOf_10 rfl rfl ?_
      refine v_gf_i (n := 14) (kz := 2) xB_45 dX5_anyOf_11 xO_45 fl_5_28 fg_5_2 rfl (sh_53 _ _ _) rfl rfl ?_
      refine v_aload_n (n := 15) xB_45 dX5_anyOf_14 rfl rfl ?_
      refine v_gf_i (n := 18) (kz := 1) xB_45 dX5_anyOf_15 xO_45 fl_5_59 fg_5_1 rfl (sh_53 _ _ _) rfl rfl ?_
      refine v_ic_ge_n (n := 21) xB_45 dX5_anyOf_18 (by decide) rfl (by first | omega | (simp only [sA_same, sA_s, ud_s, Int.reduceEq, if_true, if_false, ite_true, ite_false, ↓reduceIte, and_true, true_and, eq_self, Int.add_zero, Int.reduceAdd]; omega) | (simp (disch := omega) only [sA_same, sA_ne, ud_eq, ud_ne, Int.add_zero, Int.reduceAdd]; omega)) ?_
      refine v_aload_n (n := 22) xB_45 dX5_anyOf_21 rfl rfl ?_
      refine v_gf_s (n := 25) (kz := 0) xB_45 dX5_anyOf_22 xO_45 fl_5_9 fg_5_0 (sh_53 _ _ _) rfl st_53_0 rfl ?_
      refine v_aload_n (n := 26) xB_45 dX5_anyOf_25 rfl rfl ?_
      refine v_gf_i (n := 29) (kz := 2) xB_45 dX5_anyOf_26 xO_45 fl_5_28 fg_5_2 rfl (sh_53 _ _ _) rfl rfl ?_
      refine v_iaload (n := 30) (lz := 100) xB_45 dX5_anyOf_29 (sh_54 _ _ _) rfl (by first | omega | (simp only [sA_same, sA_s, ud_s, Int.reduceEq, if_true, if_false, ite_true, ite_false, ↓reduceIte, and_true, true_and, eq_self, Int.add_zero, Int.reduceAdd]; omega) | (simp (disch := omega) only [sA_same, sA_ne, ud_eq, ud_ne, Int.add_zero, Int.reduceAdd]; omega)) rfl ?_
      refine v_bipush (n := 32) xB_45 dX5_anyOf_30 ⟨by decide, by decide⟩ rfl ?_
      refine v_ic_ne_n (n := 35) xB_45 dX5_anyOf_32 (by decide) rfl (by first | omega | (simp only [sA_same, sA_s, ud_s, Int.reduceEq, if_true, if_false, ite_true, ite_false, ↓reduceIte, and_true, true_and, eq_self, Int.add_zero, Int.reduceAdd]; omega) | (simp (disch := omega) only [sA_same, sA_ne, ud_eq, ud_ne, Int.add_zero, Int.reduceAdd]; omega)) ?_
      refine v_aload_n (n := 36) xB_45 dX5_anyOf_35 rfl rfl ?_
      refine v_dup (n := 37) xB_45 dX5_anyOf_36 rfl rfl ?_
      refine v_gf_i (n := 40) (kz := 2) xB_45 dX5_anyOf_37 xO_45 fl_5_28 fg_5_2 rfl (sh_53 _ _ _) rfl rfl ?_
      refine v_iconst (n := 41) xB_45 dX5_anyOf_40 ⟨by decide, by decide⟩ rfl ?_
      refine v_iadd (n := 42) xB_45 dX5_anyOf_41 (by first | omega | (simp only [sA_same, sA_s, ud_s, Int.reduceEq, if_true, if_false, ite_true, ite_false, ↓reduceIte, and_true, true_and, eq_self, Int.add_zero, Int.reduceAdd]; omega) | (simp (disch := omega) only [sA_same, sA_ne, ud_eq, ud_ne, Int.add_zero, Int.reduceAdd]; omega)) rfl ?_
      refine v_pf_i (n := 45) (kz := 2) xB_45 dX5_anyOf_42 xO_45 fl_5_28 fg_5_2 (Or.inl fn_5_2) (sh_53 _ _ _) (by decide) rfl rfl ?_
      (try simp (disch := omega) only [sA_same, sA_ne, sA_sA, sA_sr, sB_s, ud_eq, ud_ne, ud_ud, ud_sr, uB_s, Int.add_zero, Int.reduceAdd])
      refine v_aload_n (n := 46) xB_45 dX5_anyOf_45 rfl rfl ?_
      refine v_iload_n (n := 47) xB_45 dX5_anyOf_46 rfl rfl ?_
      refine v_call_v (n := 50) xB_45 dX5_anyOf_47 xO_45 iv_5_90 rfl (sh_53 _ _ _) rfl rfl rfl ?_
      refine hF (by omega) hK3 hI3 (fun gE mA hA => ?_) (fun gE mA hA => ?_)
      · obtain ⟨g54, g1, g2, g7, gz⟩ := Rd_m hI3 hA
        (try simp (disch := omega) only [sA_same, sA_ne, sA_sA, sA_sr, sB_s, ud_eq, ud_ne, ud_ud, ud_sr, uB_s, Int.add_zero, Int.reduceAdd] at gE hA)
        rw [e54, e1, e2] at gE hA
        rw [e2] at hAt
        have hR2 := Rd_trans (Rd_trans hR hAt) hA
        have gz2 := hR2.2.1
        have g22 := hR2.1.2.2.1
        have g11 := hR2.1.2.1 1 (by omega)
        rw [List.length_append, List.append_nil] at gz2
        rw [lp_go h1 hb gE] at go no
        refine v_if_ne_y (t := 55) xB_45 dX5_anyOf_50 (by decide) rfl (by decide) ?_
        refine v_aload_n (n := 56) xB_45 dX5_anyOf_55 rfl rfl ?_
        refine v_gf_d (n := 59) (kz := 7) xB_45 dX5_anyOf_56 xO_45 fl_5_25 fg_5_7 (sh_53 _ _ _) rfl st_53_7 rfl ?_
        rw [g7]
        refine v_bipush (n := 61) xB_45 dX5_anyOf_59 ⟨by decide, by decide⟩ rfl ?_
        refine v_call_v (n := 64) xB_45 dX5_anyOf_61 xO_45 iv_5_74 rfl (sh_io hio _ _ _) rfl rfl rfl ?_
        refine k_stepadd (by omega) a4 (by omega) ?_
        (try simp (disch := omega) only [sA_same, sA_ne, sA_sA, sA_sr, sB_s, ud_eq, ud_ne, ud_ud, ud_sr, uB_s, Int.add_zero, Int.reduceAdd])
        refine v_goto (t := 10) xB_45 dX5_anyOf_64 (by decide) rfl ?_
        have hAd := Rd_trans hR2 (Rd_add (m := mA) (z := -3) a4 rfl)
        rw [List.append_nil, g22] at hAd
        exact ih (true, ((f (m 54) (m 53 1) (r.2.1 + 1)).2.1, r.2.2 ++ (f (m 54) (m 53 1) (r.2.1 + 1)).2.2 ++ [-3])) _ rfl (by dsimp only; omega) ⟨by dsimp only; omega, j2, by dsimp only; rw [List.length_append, List.length_append, List.length_singleton]; omega, fun _ => by dsimp only; omega⟩ hAd go no
      · (try simp (disch := omega) only [sA_same, sA_ne, sA_sA, sA_sr, sB_s, ud_eq, ud_ne, ud_ud, ud_sr, uB_s, Int.add_zero, Int.reduceAdd] at gE hA)
        rw [e54, e1, e2] at gE hA
        rw [e2] at hAt
        rw [lp_no h1 hb gE] at no
        refine v_if_ne_n (n := 53) xB_45 dX5_anyOf_50 (by decide) rfl (by decide) ?_
        refine v_iconst (n := 54) xB_45 dX5_anyOf_53 ⟨by decide, by decide⟩ rfl ?_
        refine v_ireturn1 xB_45 dX5_anyOf_54 xK_45 (by decide) ?_
        exact no rfl _ (Rf_trans hR.1 (Rf_trans hAt.1 hA))
    · have hx : m' 53 2 < m' 53 1 → m' 54 (m' 53 2) ≠ 124 := fun h => by rw [e54, e2]; rw [e2, e1] at h; rw [nx_t h] at hb; exact hb
      rw [lp_end hb] at go
      refine v_aload_n (n := 11) xB_45 dX5_anyOf_10 rfl rfl ?_
      refine v_gf_i (n := 14) (kz := 2) xB_45 dX5_anyOf_11 xO_45 fl_5_28 fg_5_2 rfl (sh_53 _ _ _) rfl rfl ?_
      refine v_aload_n (n := 15) xB_45 dX5_anyOf_14 rfl rfl ?_
      refine v_gf_i (n := 18) (kz := 1) xB_45 dX5_anyOf_15 xO_45 fl_5_59 fg_5_1 rfl (sh_53 _ _ _) rfl rfl ?_
      refine v_ic_ge (t := 67) (n := 21) xB_45 dX5_anyOf_18 (by decide) rfl rfl (fun g1 => ?_) (fun g1 => ?_)
      · refine v_iconst (n := 68) xB_45 dX5_anyOf_67 ⟨by decide, by decide⟩ rfl ?_
        refine v_ireturn1 xB_45 dX5_anyOf_68 xK_45 (by decide) ?_
        exact go h1 _ hR
      · refine v_aload_n (n := 22) xB_45 dX5_anyOf_21 rfl rfl ?_
        refine v_gf_s (n := 25) (kz := 0) xB_45 dX5_anyOf_22 xO_45 fl_5_9 fg_5_0 (sh_53 _ _ _) rfl st_53_0 rfl ?_
        refine v_aload_n (n := 26) xB_45 dX5_anyOf_25 rfl rfl ?_
        refine v_gf_i (n := 29) (kz := 2) xB_45 dX5_anyOf_26 xO_45 fl_5_28 fg_5_2 rfl (sh_53 _ _ _) rfl rfl ?_
        refine v_iaload (n := 30) (lz := 100) xB_45 dX5_anyOf_29 (sh_54 _ _ _) rfl (by first | omega | (simp only [sA_same, sA_s, ud_s, Int.reduceEq, if_true, if_false, ite_true, ite_false, ↓reduceIte, and_true, true_and, eq_self, Int.add_zero, Int.reduceAdd]; omega) | (simp (disch := omega) only [sA_same, sA_ne, ud_eq, ud_ne, Int.add_zero, Int.reduceAdd]; omega)) rfl ?_
        refine v_bipush (n := 32) xB_45 dX5_anyOf_30 ⟨by decide, by decide⟩ rfl ?_
        refine v_ic_ne_y (t := 67) xB_45 dX5_anyOf_32 (by decide) rfl (by first | omega | (simp only [sA_same, sA_s, ud_s, Int.reduceEq, if_true, if_false, ite_true, ite_false, ↓reduceIte, and_true, true_and, eq_self, Int.add_zero, Int.reduceAdd]; omega) | (simp (disch := omega) only [sA_same, sA_ne, ud_eq, ud_ne, Int.add_zero, Int.reduceAdd]; omega)) ?_
        refine v_iconst (n := 68) xB_45 dX5_anyOf_67 ⟨by decide, by decide⟩ rfl ?_
        refine v_ireturn1 xB_45 dX5_anyOf_68 xK_45 (by decide) ?_
        exact go h1 _ hR
set_option maxHeartbeats 1000000 in
theorem k_anyOf {D : Nat} {dep : Int} {f : (Int → Int) → Int → Int → RR} (hF : SpecB 46 D dep f) (hok : ∀ (T : Int → Int) (n a : Int), a ≤ n → okR n a (f T n a)) : SpecB 45 (D + 3) dep (fun T n a => lp (f T n) T n 124 (-3) 200 (f T n a)) := by
  intro d m dy L io Q hd hK hI o1 o2
  refine C_go (k := D + 2) hd xL_45 (fun d hd => ?_)
  show V d 45 (0, ([some (.inr (.inr 53)), some (.inl dep)], ([], (m, (none, (dy, L)))))) Q
  have hk := hok (m 54) (m 53 1) (m 53 2) hI.2.1.2
  have hn := hI.1
  have ha := hI.2.1
  refine v_aload_n (n := 1) xB_45 dX5_anyOf_0 rfl rfl ?_
  refine v_iload_n (n := 2) xB_45 dX5_anyOf_1 rfl rfl ?_
  refine v_call_v (n := 5) xB_45 dX5_anyOf_2 xO_45 iv_5_90 rfl (sh_53 _ _ _) rfl rfl rfl ?_
  refine hF (by omega) hK hI (fun gE mA hA => ?_) (fun gE mA hA => ?_)
  · refine v_if_ne_y (t := 10) xB_45 dX5_anyOf_5 (by decide) rfl (by decide) ?_
    exact vk_lpany hd hF hok hK hI 200 (f (m 54) (m 53 1) (m 53 2)) mA gE (by have := hk.1; omega) hk hA o1 o2
  · refine v_if_ne_n (n := 8) xB_45 dX5_anyOf_5 (by decide) rfl (by decide) ?_
    refine v_iconst (n := 9) xB_45 dX5_anyOf_8 ⟨by decide, by decide⟩ rfl ?_
    refine v_ireturn1 xB_45 dX5_anyOf_9 xK_45 (by decide) ?_
    have e : lp (f (m 54) (m 53 1)) (m 54) (m 53 1) 124 (-3) 200 (f (m 54) (m 53 1) (m 53 2)) = f (m 54) (m 53 1) (m 53 2) := lp_f gE
    exact o2 (by show (lp (f (m 54) (m 53 1)) (m 54) (m 53 1) 124 (-3) 200 (f (m 54) (m 53 1) (m 53 2))).1 = false; rw [e]; exact gE) _ (by show Rf m mA io (lp (f (m 54) (m 53 1)) (m 54) (m 53 1) 124 (-3) 200 (f (m 54) (m 53 1) (m 53 2))).2.1; rw [e]; exact hA)
set_option maxHeartbeats 1000000 in
theorem k_one0 : SpecB 47 6 (4 - ((0 : Nat) : Int)) (fun T n a => oneF T n 0 a) := by
  intro d m dy L io Q hd hK hI o1 o2
  refine C_go (k := 5) hd xL_47 (fun d hd => ?_)
  show V d 47 (0, ([some (.inr (.inr 53)), some (.inl (4 - ((0 : Nat) : Int))), none], ([], (m, (none, (dy, L)))))) Q
  have hI0 := hI
  obtain ⟨a1, a2, a3, a4, a5, a6, a7⟩ := hI0
  have hio := a4
  unfold ioA at hio
  rcases (by omega : nxt (m 54) (m 53 1) (m 53 2) = 33 ∨ nxt (m 54) (m 53 1) (m 53 2) = 40 ∨ (¬ nxt (m 54) (m 53 1) (m 53 2) = 33 ∧ ¬ nxt (m 54) (m 53 1) (m 53 2) = 40)) with hb | hb | hb
  · skip
    have e : oneF (m 54) (m 53 1) 0 (m 53 2) = (false, (m 53 2, [])) := by rw [oneF, if_pos (by omega)]
    have o2b : (oneF (m 54) (m 53 1) 0 (m 53 2)).1 = false → ∀ m' : PM, Rf m m' io (oneF (m 54) (m 53 1) 0 (m 53 2)).2.1 → _ := o2
    rw [e] at o2b
    refine v_aload_n (n := 1) xB_47 dX5_one_0 rfl rfl ?_
    refine v_call_v (n := 4) xB_47 dX5_one_1 xO_47 iv_5_60 rfl (sh_53 _ _ _) rfl rfl rfl ?_
    refine k_sign (by omega) ⟨a1, a2⟩ ?_
    refine v_istore_n2 (n := 5) xB_47 dX5_one_4 rfl rfl ?_
    refine v_iload_n (n := 6) xB_47 dX5_one_5 rfl rfl ?_
    refine v_bipush (n := 8) xB_47 dX5_one_6 ⟨by decide, by decide⟩ rfl ?_
    refine v_ic_eq_y (t := 23) xB_47 dX5_one_8 (by decide) rfl (by first | omega | (simp only [sA_same, sA_s, ud_s, Int.reduceEq, if_true, if_false, ite_true, ite_false, ↓reduceIte, and_true, true_and, eq_self, Int.add_zero, Int.reduceAdd]; omega) | (simp (disch := omega) only [sA_same, sA_ne, ud_eq, ud_ne, Int.add_zero, Int.reduceAdd]; omega)) ?_
    refine v_iload_n (n := 24) xB_47 dX5_one_23 rfl rfl ?_
    refine v_iconst (n := 25) xB_47 dX5_one_24 ⟨by decide, by decide⟩ rfl ?_
    refine v_ic_lt_n (n := 28) xB_47 dX5_one_25 (by decide) rfl (by first | omega | (simp only [sA_same, sA_s, ud_s, Int.reduceEq, if_true, if_false, ite_true, ite_false, ↓reduceIte, and_true, true_and, eq_self, Int.add_zero, Int.reduceAdd]; omega) | (simp (disch := omega) only [sA_same, sA_ne, ud_eq, ud_ne, Int.add_zero, Int.reduceAdd]; omega)) ?_
    refine v_iconst (n := 29) xB_47 dX5_one_28 ⟨by decide, by decide⟩ rfl ?_
    refine v_ireturn1 xB_47 dX5_one_29 xK_47 (by decide) ?_
    exact o2b rfl _ (Rd_refl m io).1
  · skip
    have e : oneF (m 54) (m 53 1) 0 (m 53 2) = (false, (m 53 2, [])) := by rw [oneF, if_pos (by omega)]
    have o2b : (oneF (m 54) (m 53 1) 0 (m 53 2)).1 = false → ∀ m' : PM, Rf m m' io (oneF (m 54) (m 53 1) 0 (m 53 2)).2.1 → _ := o2
    rw [e] at o2b
    refine v_aload_n (n := 1) xB_47 dX5_one_0 rfl rfl ?_
    refine v_call_v (n := 4) xB_47 dX5_one_1 xO_47 iv_5_60 rfl (sh_53 _ _ _) rfl rfl rfl ?_
    refine k_sign (by omega) ⟨a1, a2⟩ ?_
    refine v_istore_n2 (n := 5) xB_47 dX5_one_4 rfl rfl ?_
    refine v_iload_n (n := 6) xB_47 dX5_one_5 rfl rfl ?_
    refine v_bipush (n := 8) xB_47 dX5_one_6 ⟨by decide, by decide⟩ rfl ?_
    refine v_ic_eq_n (n := 11) xB_47 dX5_one_8 (by decide) rfl (by first | omega | (simp only [sA_same, sA_s, ud_s, Int.reduceEq, if_true, if_false, ite_true, ite_false, ↓reduceIte, and_true, true_and, eq_self, Int.add_zero, Int.reduceAdd]; omega) | (simp (disch := omega) only [sA_same, sA_ne, ud_eq, ud_ne, Int.add_zero, Int.reduceAdd]; omega)) ?_
    refine v_iload_n (n := 12) xB_47 dX5_one_11 rfl rfl ?_
    refine v_bipush (n := 14) xB_47 dX5_one_12 ⟨by decide, by decide⟩ rfl ?_
    refine v_ic_eq_y (t := 23) xB_47 dX5_one_14 (by decide) rfl (by first | omega | (simp only [sA_same, sA_s, ud_s, Int.reduceEq, if_true, if_false, ite_true, ite_false, ↓reduceIte, and_true, true_and, eq_self, Int.add_zero, Int.reduceAdd]; omega) | (simp (disch := omega) only [sA_same, sA_ne, ud_eq, ud_ne, Int.add_zero, Int.reduceAdd]; omega)) ?_
    refine v_iload_n (n := 24) xB_47 dX5_one_23 rfl rfl ?_
    refine v_iconst (n := 25) xB_47 dX5_one_24 ⟨by decide, by decide⟩ rfl ?_
    refine v_ic_lt_n (n := 28) xB_47 dX5_one_25 (by decide) rfl (by first | omega | (simp only [sA_same, sA_s, ud_s, Int.reduceEq, if_true, if_false, ite_true, ite_false, ↓reduceIte, and_true, true_and, eq_self, Int.add_zero, Int.reduceAdd]; omega) | (simp (disch := omega) only [sA_same, sA_ne, ud_eq, ud_ne, Int.add_zero, Int.reduceAdd]; omega)) ?_
    refine v_iconst (n := 29) xB_47 dX5_one_28 ⟨by decide, by decide⟩ rfl ?_
    refine v_ireturn1 xB_47 dX5_one_29 xK_47 (by decide) ?_
    exact o2b rfl _ (Rd_refl m io).1
  · skip
    have e : oneF (m 54) (m 53 1) 0 (m 53 2) = tst (m 54) (m 53 1) (m 53 2) := by rw [oneF, if_neg (by omega)]
    have o1b : (oneF (m 54) (m 53 1) 0 (m 53 2)).1 = true → _ := o1
    have o2b : (oneF (m 54) (m 53 1) 0 (m 53 2)).1 = false → _ := o2
    rw [e] at o1b o2b
    refine v_aload_n (n := 1) xB_47 dX5_one_0 rfl rfl ?_
    refine v_call_v (n := 4) xB_47 dX5_one_1 xO_47 iv_5_60 rfl (sh_53 _ _ _) rfl rfl rfl ?_
    refine k_sign (by omega) ⟨a1, a2⟩ ?_
    refine v_istore_n2 (n := 5) xB_47 dX5_one_4 rfl rfl ?_
    refine v_iload_n (n := 6) xB_47 dX5_one_5 rfl rfl ?_
    refine v_bipush (n := 8) xB_47 dX5_one_6 ⟨by decide, by decide⟩ rfl ?_
    refine v_ic_eq_n (n := 11) xB_47 dX5_one_8 (by decide) rfl (by first | omega | (simp only [sA_same, sA_s, ud_s, Int.reduceEq, if_true, if_false, ite_true, ite_false, ↓reduceIte, and_true, true_and, eq_self, Int.add_zero, Int.reduceAdd]; omega) | (simp (disch := omega) only [sA_same, sA_ne, ud_eq, ud_ne, Int.add_zero, Int.reduceAdd]; omega)) ?_
    refine v_iload_n (n := 12) xB_47 dX5_one_11 rfl rfl ?_
    refine v_bipush (n := 14) xB_47 dX5_one_12 ⟨by decide, by decide⟩ rfl ?_
    refine v_ic_eq_n (n := 17) xB_47 dX5_one_14 (by decide) rfl (by first | omega | (simp only [sA_same, sA_s, ud_s, Int.reduceEq, if_true, if_false, ite_true, ite_false, ↓reduceIte, and_true, true_and, eq_self, Int.add_zero, Int.reduceAdd]; omega) | (simp (disch := omega) only [sA_same, sA_ne, ud_eq, ud_ne, Int.add_zero, Int.reduceAdd]; omega)) ?_
    refine v_aload_n (n := 18) xB_47 dX5_one_17 rfl rfl ?_
    refine v_iload_n (n := 19) xB_47 dX5_one_18 rfl rfl ?_
    refine v_call_v (n := 22) xB_47 dX5_one_19 xO_47 iv_5_96 rfl (sh_53 _ _ _) rfl rfl rfl ?_
    refine k_test (by omega) hK hI (fun gT mA hA => ?_) (fun gT mA hA => ?_)
    · refine v_ireturn1 xB_47 dX5_one_22 xK_47 (by decide) ?_
      first | exact o1b gT _ (by rw [← e] at hA; exact hA) | exact o2b gT _ (by rw [← e] at hA; exact hA)
    · refine v_ireturn1 xB_47 dX5_one_22 xK_47 (by decide) ?_
      first | exact o1b gT _ (by rw [← e] at hA; exact hA) | exact o2b gT _ (by rw [← e] at hA; exact hA)
set_option maxHeartbeats 1000000 in
theorem k_oneS {D : Nat} {k : Nat} (hk4 : k < 4) (hD : 6 ≤ D) (hO : SpecB 47 D (4 - (k : Int)) (fun T n a => oneF T n k a)) (hA : SpecB 45 (D + 6) (4 - (k : Int)) (fun T n a => anyF (oneF T n k) T n a)) : SpecB 47 (D + 7) (4 - ((k + 1 : Nat) : Int)) (fun T n a => oneF T n (k + 1) a) := by
  intro d m dy L io Q hd hK hI o1 o2
  refine C_go (k := D + 6) hd xL_47 (fun d hd => ?_)
  show V d 47 (0, ([some (.inr (.inr 53)), some (.inl (4 - ((k + 1 : Nat) : Int))), none], ([], (m, (none, (dy, L)))))) Q
  have hI0 := hI
  obtain ⟨a1, a2, a3, a4, a5, a6, a7⟩ := hI0
  have hio := a4
  unfold ioA at hio
  rcases (by omega : nxt (m 54) (m 53 1) (m 53 2) = 33 ∨ nxt (m 54) (m 53 1) (m 53 2) = 40 ∨ (¬ nxt (m 54) (m 53 1) (m 53 2) = 33 ∧ ¬ nxt (m 54) (m 53 1) (m 53 2) = 40)) with hb | hb | hb
  · skip
    have hin := nxt_in hb (by omega)
    have hAt : Rd m (setA m 53 (ud (m 53) 2 (m 53 2 + 1))) io (m 53 2 + 1) [] := Rd_at a4 rfl
    have hI3 := RdI_d hI hAt (by omega) (by omega) (by rw [List.length_nil]; omega)
    have hK3 := KT_d hK a4 hAt.1
    have o1b : (oneF (m 54) (m 53 1) (k + 1) (m 53 2)).1 = true → ∀ m' : PM, Rd m m' io (oneF (m 54) (m 53 1) (k + 1) (m 53 2)).2.1 (oneF (m 54) (m 53 1) (k + 1) (m 53 2)).2.2 → Q (some (.inl 1)) (m', (none, (dy, L))) := o1
    have o2b : (oneF (m 54) (m 53 1) (k + 1) (m 53 2)).1 = false → ∀ m' : PM, Rf m m' io (oneF (m 54) (m 53 1) (k + 1) (m 53 2)).2.1 → Q (some (.inl 0)) (m', (none, (dy, L))) := o2
    have e : oneF (m 54) (m 53 1) (k + 1) (m 53 2) = if (oneF (m 54) (m 53 1) k (m 53 2 + 1)).1 = true then (true, ((oneF (m 54) (m 53 1) k (m 53 2 + 1)).2.1, (oneF (m 54) (m 53 1) k (m 53 2 + 1)).2.2 ++ [-1])) else oneF (m 54) (m 53 1) k (m 53 2 + 1) := by rw [oneF, if_pos hb]
    rw [e] at o1b o2b
    obtain ⟨j1, j2, j3, j4⟩ := oneF_ok (m 54) (m 53 1) k (m 53 2 + 1) (by omega)
    refine v_aload_n (n := 1) xB_47 dX5_one_0 rfl rfl ?_
    refine v_call_v (n := 4) xB_47 dX5_one_1 xO_47 iv_5_60 rfl (sh_53 _ _ _) rfl rfl rfl ?_
    refine k_sign (by omega) ⟨a1, a2⟩ ?_
    refine v_istore_n2 (n := 5) xB_47 dX5_one_4 rfl rfl ?_
    refine v_iload_n (n := 6) xB_47 dX5_one_5 rfl rfl ?_
    refine v_bipush (n := 8) xB_47 dX5_one_6 ⟨by decide, by decide⟩ rfl ?_
    refine v_ic_eq_y (t := 23) xB_47 dX5_one_8 (by decide) rfl (by first | omega | (simp only [sA_same, sA_s, ud_s, Int.reduceEq, if_true, if_false, ite_true, ite_false, ↓reduceIte, and_true, true_and, eq_self, Int.add_zero, Int.reduceAdd]; omega) | (simp (disch := omega) only [sA_same, sA_ne, ud_eq, ud_ne, Int.add_zero, Int.reduceAdd]; omega)) ?_
    refine v_iload_n (n := 24) xB_47 dX5_one_23 rfl rfl ?_
    refine v_iconst (n := 25) xB_47 dX5_one_24 ⟨by decide, by decide⟩ rfl ?_
    refine v_ic_lt_y (t := 30) xB_47 dX5_one_25 (by decide) rfl (by first | omega | (simp only [sA_same, sA_s, ud_s, Int.reduceEq, if_true, if_false, ite_true, ite_false, ↓reduceIte, and_true, true_and, eq_self, Int.add_zero, Int.reduceAdd]; omega) | (simp (disch := omega) only [sA_same, sA_ne, ud_eq, ud_ne, Int.add_zero, Int.reduceAdd]; omega)) ?_
    refine v_aload_n (n := 31) xB_47 dX5_one_30 rfl rfl ?_
    refine v_dup (n := 32) xB_47 dX5_one_31 rfl rfl ?_
    refine v_gf_i (n := 35) (kz := 2) xB_47 dX5_one_32 xO_47 fl_5_28 fg_5_2 rfl (sh_53 _ _ _) rfl rfl ?_
    refine v_iconst (n := 36) xB_47 dX5_one_35 ⟨by decide, by decide⟩ rfl ?_
    refine v_iadd (n := 37) xB_47 dX5_one_36 (by first | omega | (simp only [sA_same, sA_s, ud_s, Int.reduceEq, if_true, if_false, ite_true, ite_false, ↓reduceIte, and_true, true_and, eq_self, Int.add_zero, Int.reduceAdd]; omega) | (simp (disch := omega) only [sA_same, sA_ne, ud_eq, ud_ne, Int.add_zero, Int.reduceAdd]; omega)) rfl ?_
    refine v_pf_i (n := 40) (kz := 2) xB_47 dX5_one_37 xO_47 fl_5_28 fg_5_2 (Or.inl fn_5_2) (sh_53 _ _ _) (by decide) rfl rfl ?_
    (try simp (disch := omega) only [sA_same, sA_ne, sA_sA, sA_sr, sB_s, ud_eq, ud_ne, ud_ud, ud_sr, uB_s, Int.add_zero, Int.reduceAdd])
    refine v_iload_n (n := 41) xB_47 dX5_one_40 rfl rfl ?_
    refine v_bipush (n := 43) xB_47 dX5_one_41 ⟨by decide, by decide⟩ rfl ?_
    refine v_ic_ne_n (n := 46) xB_47 dX5_one_43 (by decide) rfl (by first | omega | (simp only [sA_same, sA_s, ud_s, Int.reduceEq, if_true, if_false, ite_true, ite_false, ↓reduceIte, and_true, true_and, eq_self, Int.add_zero, Int.reduceAdd]; omega) | (simp (disch := omega) only [sA_same, sA_ne, ud_eq, ud_ne, Int.add_zero, Int.reduceAdd]; omega)) ?_
    refine v_aload_n (n := 47) xB_47 dX5_one_46 rfl rfl ?_
    refine v_iload_n (n := 48) xB_47 dX5_one_47 rfl rfl ?_
    refine v_iconst (n := 49) xB_47 dX5_one_48 ⟨by decide, by decide⟩ rfl ?_
    refine v_iadd (n := 50) xB_47 dX5_one_49 (by first | omega | (simp only [sA_same, sA_s, ud_s, Int.reduceEq, if_true, if_false, ite_true, ite_false, ↓reduceIte, and_true, true_and, eq_self, Int.add_zero, Int.reduceAdd]; omega) | (simp (disch := omega) only [sA_same, sA_ne, ud_eq, ud_ne, Int.add_zero, Int.reduceAdd]; omega)) rfl ?_
    rw [show (4 : Int) - ((k + 1 : Nat) : Int) + 1 = 4 - (k : Int) by omega]
    refine v_call_v (n := 53) xB_47 dX5_one_50 xO_47 iv_5_93 rfl (sh_53 _ _ _) rfl rfl rfl ?_
    refine hO (by omega) hK3 hI3 (fun gE mA hA2 => ?_) (fun gE mA hA2 => ?_)
    · obtain ⟨g54, g1, g2, g7, gz⟩ := Rd_m hI3 hA2
      (try simp (disch := omega) only [sA_same, sA_ne, sA_sA, sA_sr, sB_s, ud_eq, ud_ne, ud_ud, ud_sr, uB_s, Int.add_zero, Int.reduceAdd] at gE hA2)
      rw [if_pos gE] at o1b
      have hR2 := Rd_trans hAt hA2
      have gz2 := hR2.2.1
      have g22 := hR2.1.2.2.1
      rw [List.nil_append] at gz2
      refine v_if_ne_y (t := 58) xB_47 dX5_one_53 (by decide) rfl (by decide) ?_
      refine v_aload_n (n := 59) xB_47 dX5_one_58 rfl rfl ?_
      refine v_gf_d (n := 62) (kz := 7) xB_47 dX5_one_59 xO_47 fl_5_25 fg_5_7 (sh_53 _ _ _) rfl st_53_7 rfl ?_
      rw [g7]
      refine v_iconst (n := 63) xB_47 dX5_one_62 ⟨by decide, by decide⟩ rfl ?_
      refine v_call_v (n := 66) xB_47 dX5_one_63 xO_47 iv_5_74 rfl (sh_io hio _ _ _) rfl rfl rfl ?_
      refine k_stepadd (by omega) a4 (by omega) ?_
      (try simp (disch := omega) only [sA_same, sA_ne, sA_sA, sA_sr, sB_s, ud_eq, ud_ne, ud_ud, ud_sr, uB_s, Int.add_zero, Int.reduceAdd])
      refine v_iconst (n := 67) xB_47 dX5_one_66 ⟨by decide, by decide⟩ rfl ?_
      refine v_ireturn1 xB_47 dX5_one_67 xK_47 (by decide) ?_
      first
      | (have hAd := Rd_trans hR2 (Rd_add (m := mA) (z := -1) a4 rfl)
         rw [List.nil_append, g22] at hAd
         (try simp (disch := omega) only [sA_same, sA_ne, sA_sA, sA_sr, sB_s, ud_eq, ud_ne, ud_ud, ud_sr, uB_s, Int.add_zero, Int.reduceAdd])
         exact o1b rfl _ hAd)
      | exact o2b gE _ (Rf_trans hAt.1 hA2)
    · (try simp (disch := omega) only [sA_same, sA_ne, sA_sA, sA_sr, sB_s, ud_eq, ud_ne, ud_ud, ud_sr, uB_s, Int.add_zero, Int.reduceAdd] at gE hA2)
      rw [if_neg (by rw [gE]; decide)] at o2b
      refine v_if_ne_n (n := 56) xB_47 dX5_one_53 (by decide) rfl (by decide) ?_
      refine v_iconst (n := 57) xB_47 dX5_one_56 ⟨by decide, by decide⟩ rfl ?_
      refine v_ireturn1 xB_47 dX5_one_57 xK_47 (by decide) ?_
      first
      | (have hAd := Rd_trans hR2 (Rd_add (m := mA) (z := -1) a4 rfl)
         rw [List.nil_append, g22] at hAd
         (try simp (disch := omega) only [sA_same, sA_ne, sA_sA, sA_sr, sB_s, ud_eq, ud_ne, ud_ud, ud_sr, uB_s, Int.add_zero, Int.reduceAdd])
         exact o1b rfl _ hAd)
      | exact o2b gE _ (Rf_trans hAt.1 hA2)
  · skip
    have hin := nxt_in hb (by omega)
    have hAt : Rd m (setA m 53 (ud (m 53) 2 (m 53 2 + 1))) io (m 53 2 + 1) [] := Rd_at a4 rfl
    have hI3 := RdI_d hI hAt (by omega) (by omega) (by rw [List.length_nil]; omega)
    have hK3 := KT_d hK a4 hAt.1
    have o1b : (oneF (m 54) (m 53 1) (k + 1) (m 53 2)).1 = true → ∀ m' : PM, Rd m m' io (oneF (m 54) (m 53 1) (k + 1) (m 53 2)).2.1 (oneF (m 54) (m 53 1) (k + 1) (m 53 2)).2.2 → Q (some (.inl 1)) (m', (none, (dy, L))) := o1
    have o2b : (oneF (m 54) (m 53 1) (k + 1) (m 53 2)).1 = false → ∀ m' : PM, Rf m m' io (oneF (m 54) (m 53 1) (k + 1) (m 53 2)).2.1 → Q (some (.inl 0)) (m', (none, (dy, L))) := o2
    have e : oneF (m 54) (m 53 1) (k + 1) (m 53 2) = if (anyF (oneF (m 54) (m 53 1) k) (m 54) (m 53 1) (m 53 2 + 1)).1 = true ∧ nxt (m 54) (m 53 1) (anyF (oneF (m 54) (m 53 1) k) (m 54) (m 53 1) (m 53 2 + 1)).2.1 = 41 then (true, ((anyF (oneF (m 54) (m 53 1) k) (m 54) (m 53 1) (m 53 2 + 1)).2.1 + 1, (anyF (oneF (m 54) (m 53 1) k) (m 54) (m 53 1) (m 53 2 + 1)).2.2)) else (false, ((anyF (oneF (m 54) (m 53 1) k) (m 54) (m 53 1) (m 53 2 + 1)).2.1, (anyF (oneF (m 54) (m 53 1) k) (m 54) (m 53 1) (m 53 2 + 1)).2.2)) := by rw [oneF, if_neg (by omega), if_pos hb]
    rw [e] at o1b o2b
    obtain ⟨j1, j2, j3, j4⟩ := anyF_ok (T := m 54) (n := m 53 1) (a := m 53 2 + 1) (f := oneF (m 54) (m 53 1) k) (fun b _ hb => oneF_ok (m 54) (m 53 1) k b hb) (by omega)
    refine v_aload_n (n := 1) xB_47 dX5_one_0 rfl rfl ?_
    refine v_call_v (n := 4) xB_47 dX5_one_1 xO_47 iv_5_60 rfl (sh_53 _ _ _) rfl rfl rfl ?_
    refine k_sign (by omega) ⟨a1, a2⟩ ?_
    refine v_istore_n2 (n := 5) xB_47 dX5_one_4 rfl rfl ?_
    refine v_iload_n (n := 6) xB_47 dX5_one_5 rfl rfl ?_
    refine v_bipush (n := 8) xB_47 dX5_one_6 ⟨by decide, by decide⟩ rfl ?_
    refine v_ic_eq_n (n := 11) xB_47 dX5_one_8 (by decide) rfl (by first | omega | (simp only [sA_same, sA_s, ud_s, Int.reduceEq, if_true, if_false, ite_true, ite_false, ↓reduceIte, and_true, true_and, eq_self, Int.add_zero, Int.reduceAdd]; omega) | (simp (disch := omega) only [sA_same, sA_ne, ud_eq, ud_ne, Int.add_zero, Int.reduceAdd]; omega)) ?_
    refine v_iload_n (n := 12) xB_47 dX5_one_11 rfl rfl ?_
    refine v_bipush (n := 14) xB_47 dX5_one_12 ⟨by decide, by decide⟩ rfl ?_
    refine v_ic_eq_y (t := 23) xB_47 dX5_one_14 (by decide) rfl (by first | omega | (simp only [sA_same, sA_s, ud_s, Int.reduceEq, if_true, if_false, ite_true, ite_false, ↓reduceIte, and_true, true_and, eq_self, Int.add_zero, Int.reduceAdd]; omega) | (simp (disch := omega) only [sA_same, sA_ne, ud_eq, ud_ne, Int.add_zero, Int.reduceAdd]; omega)) ?_
    refine v_iload_n (n := 24) xB_47 dX5_one_23 rfl rfl ?_
    refine v_iconst (n := 25) xB_47 dX5_one_24 ⟨by decide, by decide⟩ rfl ?_
    refine v_ic_lt_y (t := 30) xB_47 dX5_one_25 (by decide) rfl (by first | omega | (simp only [sA_same, sA_s, ud_s, Int.reduceEq, if_true, if_false, ite_true, ite_false, ↓reduceIte, and_true, true_and, eq_self, Int.add_zero, Int.reduceAdd]; omega) | (simp (disch := omega) only [sA_same, sA_ne, ud_eq, ud_ne, Int.add_zero, Int.reduceAdd]; omega)) ?_
    refine v_aload_n (n := 31) xB_47 dX5_one_30 rfl rfl ?_
    refine v_dup (n := 32) xB_47 dX5_one_31 rfl rfl ?_
    refine v_gf_i (n := 35) (kz := 2) xB_47 dX5_one_32 xO_47 fl_5_28 fg_5_2 rfl (sh_53 _ _ _) rfl rfl ?_
    refine v_iconst (n := 36) xB_47 dX5_one_35 ⟨by decide, by decide⟩ rfl ?_
    refine v_iadd (n := 37) xB_47 dX5_one_36 (by first | omega | (simp only [sA_same, sA_s, ud_s, Int.reduceEq, if_true, if_false, ite_true, ite_false, ↓reduceIte, and_true, true_and, eq_self, Int.add_zero, Int.reduceAdd]; omega) | (simp (disch := omega) only [sA_same, sA_ne, ud_eq, ud_ne, Int.add_zero, Int.reduceAdd]; omega)) rfl ?_
    refine v_pf_i (n := 40) (kz := 2) xB_47 dX5_one_37 xO_47 fl_5_28 fg_5_2 (Or.inl fn_5_2) (sh_53 _ _ _) (by decide) rfl rfl ?_
    (try simp (disch := omega) only [sA_same, sA_ne, sA_sA, sA_sr, sB_s, ud_eq, ud_ne, ud_ud, ud_sr, uB_s, Int.add_zero, Int.reduceAdd])
    refine v_iload_n (n := 41) xB_47 dX5_one_40 rfl rfl ?_
    refine v_bipush (n := 43) xB_47 dX5_one_41 ⟨by decide, by decide⟩ rfl ?_
    refine v_ic_ne_y (t := 68) xB_47 dX5_one_43 (by decide) rfl (by first | omega | (simp only [sA_same, sA_s, ud_s, Int.reduceEq, if_true, if_false, ite_true, ite_false, ↓reduceIte, and_true, true_and, eq_self, Int.add_zero, Int.reduceAdd]; omega) | (simp (disch := omega) only [sA_same, sA_ne, ud_eq, ud_ne, Int.add_zero, Int.reduceAdd]; omega)) ?_
    refine v_aload_n (n := 69) xB_47 dX5_one_68 rfl rfl ?_
    refine v_iload_n (n := 70) xB_47 dX5_one_69 rfl rfl ?_
    refine v_iconst (n := 71) xB_47 dX5_one_70 ⟨by decide, by decide⟩ rfl ?_
    refine v_iadd (n := 72) xB_47 dX5_one_71 (by first | omega | (simp only [sA_same, sA_s, ud_s, Int.reduceEq, if_true, if_false, ite_true, ite_false, ↓reduceIte, and_true, true_and, eq_self, Int.add_zero, Int.reduceAdd]; omega) | (simp (disch := omega) only [sA_same, sA_ne, ud_eq, ud_ne, Int.add_zero, Int.reduceAdd]; omega)) rfl ?_
    rw [show (4 : Int) - ((k + 1 : Nat) : Int) + 1 = 4 - (k : Int) by omega]
    refine v_call_v (n := 75) xB_47 dX5_one_72 xO_47 iv_5_71 rfl (sh_53 _ _ _) rfl rfl rfl ?_
    refine hA (by omega) hK3 hI3 (fun gE mA hA2 => ?_) (fun gE mA hA2 => ?_)
    · obtain ⟨g54, g1, g2, g7, gz⟩ := Rd_m hI3 hA2
      (try simp (disch := omega) only [sA_same, sA_ne, sA_sA, sA_sr, sB_s, ud_eq, ud_ne, ud_ud, ud_sr, uB_s, Int.add_zero, Int.reduceAdd] at gE hA2 g54 g1 g2)
      have hR2 := Rd_trans hAt hA2
      have g22 := hR2.1.2.2.1
      refine v_if_eq_n (n := 78) xB_47 dX5_one_75 (by decide) rfl (by decide) ?_
      refine v_aload_n (n := 79) xB_47 dX5_one_78 rfl rfl ?_
      refine v_call_v (n := 82) xB_47 dX5_one_79 xO_47 iv_5_60 rfl (sh_53 _ _ _) rfl rfl rfl ?_
      refine k_sign (by omega) ⟨by omega, by omega⟩ ?_
      rw [g54, g1, g22]
      refine v_bipush (n := 84) xB_47 dX5_one_82 ⟨by decide, by decide⟩ rfl ?_
      refine v_ic_eq (t := 89) (n := 87) xB_47 dX5_one_84 (by decide) rfl rfl (fun g1 => ?_) (fun g1 => ?_)
      · (try simp (disch := omega) only [sA_same, sA_ne, sA_sA, sA_sr, sB_s, ud_eq, ud_ne, ud_ud, ud_sr, uB_s, Int.add_zero, Int.reduceAdd] at g1)
        refine v_aload_n (n := 90) xB_47 dX5_one_89 rfl rfl ?_
        refine v_dup (n := 91) xB_47 dX5_one_90 rfl rfl ?_
        refine v_gf_i (n := 94) (kz := 2) xB_47 dX5_one_91 xO_47 fl_5_28 fg_5_2 rfl (sh_53 _ _ _) rfl rfl ?_
        refine v_iconst (n := 95) xB_47 dX5_one_94 ⟨by decide, by decide⟩ rfl ?_
        refine v_iadd (n := 96) xB_47 dX5_one_95 (by first | omega | (simp only [sA_same, sA_s, ud_s, Int.reduceEq, if_true, if_false, ite_true, ite_false, ↓reduceIte, and_true, true_and, eq_self, Int.add_zero, Int.reduceAdd]; omega) | (simp (disch := omega) only [sA_same, sA_ne, ud_eq, ud_ne, Int.add_zero, Int.reduceAdd]; omega)) rfl ?_
        refine v_pf_i (n := 99) (kz := 2) xB_47 dX5_one_96 xO_47 fl_5_28 fg_5_2 (Or.inl fn_5_2) (sh_53 _ _ _) (by decide) rfl rfl ?_
        (try simp (disch := omega) only [sA_same, sA_ne, sA_sA, sA_sr, sB_s, ud_eq, ud_ne, ud_ud, ud_sr, uB_s, Int.add_zero, Int.reduceAdd])
        refine v_iconst (n := 100) xB_47 dX5_one_99 ⟨by decide, by decide⟩ rfl ?_
        refine v_ireturn1 xB_47 dX5_one_100 xK_47 (by decide) ?_
        first
        | (rw [if_pos ⟨gE, by assumption⟩] at o1b
           have hAd := Rd_trans hR2 (Rd_at (m := mA) (a' := mA 53 2 + 1) a4 rfl)
           rw [List.nil_append, List.append_nil, g22] at hAd
           rw [g22]
           exact o1b rfl _ hAd)
        | exact o2b rfl _ (Rf_trans hAt.1 hA2)
        | (rw [if_neg (fun q => absurd q.2 (by assumption))] at o2b
           exact o2b rfl _ (Rf_trans hAt.1 hA2.1))
      · (try simp (disch := omega) only [sA_same, sA_ne, sA_sA, sA_sr, sB_s, ud_eq, ud_ne, ud_ud, ud_sr, uB_s, Int.add_zero, Int.reduceAdd] at g1)
        refine v_iconst (n := 88) xB_47 dX5_one_87 ⟨by decide, by decide⟩ rfl ?_
        refine v_ireturn1 xB_47 dX5_one_88 xK_47 (by decide) ?_
        first
        | (rw [if_pos ⟨gE, by assumption⟩] at o1b
           have hAd := Rd_trans hR2 (Rd_at (m := mA) (a' := mA 53 2 + 1) a4 rfl)
           rw [List.nil_append, List.append_nil, g22] at hAd
           rw [g22]
           exact o1b rfl _ hAd)
        | exact o2b rfl _ (Rf_trans hAt.1 hA2)
        | (rw [if_neg (fun q => absurd q.2 (by assumption))] at o2b
           exact o2b rfl _ (Rf_trans hAt.1 hA2.1))
    · (try simp (disch := omega) only [sA_same, sA_ne, sA_sA, sA_sr, sB_s, ud_eq, ud_ne, ud_ud, ud_sr, uB_s, Int.add_zero, Int.reduceAdd] at gE hA2)
      rw [if_neg (fun q => by rw [gE] at q; exact absurd q.1 (by decide))] at o2b
      refine v_if_eq_y (t := 87) xB_47 dX5_one_75 (by decide) rfl (by decide) ?_
      refine v_iconst (n := 88) xB_47 dX5_one_87 ⟨by decide, by decide⟩ rfl ?_
      refine v_ireturn1 xB_47 dX5_one_88 xK_47 (by decide) ?_
      first
      | (rw [if_pos ⟨gE, by assumption⟩] at o1b
         have hAd := Rd_trans hR2 (Rd_at (m := mA) (a' := mA 53 2 + 1) a4 rfl)
         rw [List.nil_append, List.append_nil, g22] at hAd
         rw [g22]
         exact o1b rfl _ hAd)
      | exact o2b rfl _ (Rf_trans hAt.1 hA2)
      | (rw [if_neg (fun q => absurd q.2 (by assumption))] at o2b
         exact o2b rfl _ (Rf_trans hAt.1 hA2.1))
  · skip
    have e : oneF (m 54) (m 53 1) (k + 1) (m 53 2) = tst (m 54) (m 53 1) (m 53 2) := by rw [oneF, if_neg hb.1, if_neg hb.2]
    have o1b : (oneF (m 54) (m 53 1) (k + 1) (m 53 2)).1 = true → _ := o1
    have o2b : (oneF (m 54) (m 53 1) (k + 1) (m 53 2)).1 = false → _ := o2
    rw [e] at o1b o2b
    refine v_aload_n (n := 1) xB_47 dX5_one_0 rfl rfl ?_
    refine v_call_v (n := 4) xB_47 dX5_one_1 xO_47 iv_5_60 rfl (sh_53 _ _ _) rfl rfl rfl ?_
    refine k_sign (by omega) ⟨a1, a2⟩ ?_
    refine v_istore_n2 (n := 5) xB_47 dX5_one_4 rfl rfl ?_
    refine v_iload_n (n := 6) xB_47 dX5_one_5 rfl rfl ?_
    refine v_bipush (n := 8) xB_47 dX5_one_6 ⟨by decide, by decide⟩ rfl ?_
    refine v_ic_eq_n (n := 11) xB_47 dX5_one_8 (by decide) rfl (by first | omega | (simp only [sA_same, sA_s, ud_s, Int.reduceEq, if_true, if_false, ite_true, ite_false, ↓reduceIte, and_true, true_and, eq_self, Int.add_zero, Int.reduceAdd]; omega) | (simp (disch := omega) only [sA_same, sA_ne, ud_eq, ud_ne, Int.add_zero, Int.reduceAdd]; omega)) ?_
    refine v_iload_n (n := 12) xB_47 dX5_one_11 rfl rfl ?_
    refine v_bipush (n := 14) xB_47 dX5_one_12 ⟨by decide, by decide⟩ rfl ?_
    refine v_ic_eq_n (n := 17) xB_47 dX5_one_14 (by decide) rfl (by first | omega | (simp only [sA_same, sA_s, ud_s, Int.reduceEq, if_true, if_false, ite_true, ite_false, ↓reduceIte, and_true, true_and, eq_self, Int.add_zero, Int.reduceAdd]; omega) | (simp (disch := omega) only [sA_same, sA_ne, ud_eq, ud_ne, Int.add_zero, Int.reduceAdd]; omega)) ?_
    refine v_aload_n (n := 18) xB_47 dX5_one_17 rfl rfl ?_
    refine v_iload_n (n := 19) xB_47 dX5_one_18 rfl rfl ?_
    refine v_call_v (n := 22) xB_47 dX5_one_19 xO_47 iv_5_96 rfl (sh_53 _ _ _) rfl rfl rfl ?_
    refine k_test (by omega) hK hI (fun gT mA hA => ?_) (fun gT mA hA => ?_)
    · refine v_ireturn1 xB_47 dX5_one_22 xK_47 (by decide) ?_
      first | exact o1b gT _ (by rw [← e] at hA; exact hA) | exact o2b gT _ (by rw [← e] at hA; exact hA)
    · refine v_ireturn1 xB_47 dX5_one_22 xK_47 (by decide) ?_
      first | exact o1b gT _ (by rw [← e] at hA; exact hA) | exact o2b gT _ (by rw [← e] at hA; exact hA)
theorem k_lev : ∀ k : Nat, k ≤ 4 → SpecB 47 (6 + 7 * k) (4 - (k : Int)) (fun T n a => oneF T n k a) ∧ SpecB 45 (6 + 7 * k + 6) (4 - (k : Int)) (fun T n a => anyF (oneF T n k) T n a) := by
  intro k
  have key : ∀ k : Nat, SpecB 47 (6 + 7 * k) (4 - (k : Int)) (fun T n a => oneF T n k a) → SpecB 45 (6 + 7 * k + 6) (4 - (k : Int)) (fun T n a => anyF (oneF T n k) T n a) := by
    intro k h
    have h1 : SpecB 46 (6 + 7 * k + 3) (4 - (k : Int)) (fun T n a => allF (oneF T n k) T n a) := k_allOf (f := fun T n a => oneF T n k a) h (fun T n a ha => oneF_ok T n k a ha)
    exact @k_anyOf (6 + 7 * k + 3) (4 - (k : Int)) (fun T n a => allF (oneF T n k) T n a) h1 (fun T n a ha => allF_ok (fun b _ hb => oneF_ok T n k b hb) ha)
  induction k with
  | zero => intro _; exact ⟨@k_one0, key 0 @k_one0⟩
  | succ k ih =>
    intro hk
    obtain ⟨h1, h2⟩ := ih (by omega)
    have h : SpecB 47 (6 + 7 * (k + 1)) (4 - ((k + 1 : Nat) : Int)) (fun T n a => oneF T n (k + 1) a) := @k_oneS (6 + 7 * k) k (by omega) (by omega) h1 h2
    exact ⟨@h, key (k + 1) @h⟩
theorem k_E : SpecB 45 40 0 EF := (k_lev 4 (Nat.le_refl 4)).2
