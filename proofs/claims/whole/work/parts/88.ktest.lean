/-! The class reads an E. -/
def Rf (m m' : PM) (io a' : Int) : Prop := (∀ x : Int, x ≠ 53 → x ≠ io → x ≠ io + 1 → m' x = m x) ∧ (∀ k : Int, k ≠ 2 → m' 53 k = m 53 k) ∧ m' 53 2 = a' ∧ (∀ k : Int, k ≠ 1 → m' io k = m io k)
def Rd (m m' : PM) (io a' : Int) (S : List Int) : Prop := Rf m m' io a' ∧ m' io 1 = m io 1 + S.length ∧ (∀ i : Int, i < m io 1 → m' (io + 1) i = m (io + 1) i) ∧ LA (m' (io + 1)) (m io 1) S
def RdI (m : PM) (io : Int) : Prop := (0 ≤ m 53 1 ∧ m 53 1 ≤ 100) ∧ (0 ≤ m 53 2 ∧ m 53 2 ≤ m 53 1) ∧ (∀ i, 0 ≤ i → i < m 53 1 → 0 ≤ m 54 i ∧ m 54 i ≤ 127) ∧ ioA io ∧ m 53 7 = io ∧ 0 ≤ m io 1 ∧ m io 1 ≤ m 53 2
theorem Rf_trans {m m' m2 : PM} {io a1 a2 : Int} (h : Rf m m' io a1) (g : Rf m' m2 io a2) : Rf m m2 io a2 :=
  ⟨fun x p q r => (g.1 x p q r).trans (h.1 x p q r), fun k hk => (g.2.1 k hk).trans (h.2.1 k hk), g.2.2.1, fun k hk => (g.2.2.2 k hk).trans (h.2.2.2 k hk)⟩
theorem Rd_trans {m m' m2 : PM} {io a1 a2 : Int} {S1 S2 : List Int} (h : Rd m m' io a1 S1) (g : Rd m' m2 io a2 S2) : Rd m m2 io a2 (S1 ++ S2) := by
  obtain ⟨h1, h2, h3, h4⟩ := h
  obtain ⟨g1, g2, g3, g4⟩ := g
  refine ⟨Rf_trans h1 g1, by rw [List.length_append]; omega, fun i hi => (g3 i (by omega)).trans (h3 i hi), LA_ap _ _ _ (LA_fr _ _ h4 (fun i p q => g3 i (by omega))) ?_⟩
  rw [← h2]; exact g4
theorem Rd_at {m m2 : PM} {io a' : Int} (hio : ioA io) (e : m2 = setA m 53 (ud (m 53) 2 a')) : Rd m m2 io a' [] := by
  subst e
  unfold ioA at hio
  refine ⟨⟨fun x p q r => by rw [sA_ne p], fun k hk => by rw [sA_same, ud_ne hk], by rw [sA_same, ud_eq], fun k _ => by rw [sA_ne (by omega)]⟩, by rw [sA_ne (by omega), List.length_nil]; omega, fun i _ => by rw [sA_ne (by omega)], trivial⟩
theorem Rd_add {m m2 : PM} {io z : Int} (hio : ioA io) (e : m2 = setA (setA m io (ud (m io) 1 (m io 1 + 1))) (io + 1) (ud (m (io + 1)) (m io 1) z)) : Rd m m2 io (m 53 2) [z] := by
  subst e
  unfold ioA at hio
  refine ⟨⟨fun x p q r => by rw [sA_ne r, sA_ne q], fun k hk => by rw [sA_ne (by omega), sA_ne (by omega)], by rw [sA_ne (by omega), sA_ne (by omega)], fun k hk => by rw [sA_ne (by omega), sA_same, ud_ne hk]⟩, by rw [sA_ne (by omega), sA_same, ud_eq, List.length_singleton]; omega, fun i hi => by rw [sA_same, ud_ne (by omega)], ?_⟩
  rw [sA_same]
  exact ⟨by rw [ud_eq], trivial⟩
theorem Rd_refl (m : PM) (io : Int) : Rd m m io (m 53 2) [] := ⟨⟨fun _ _ _ _ => rfl, fun _ _ => rfl, rfl, fun _ _ => rfl⟩, by rw [List.length_nil]; omega, fun _ _ => rfl, trivial⟩
theorem RdI_d {m m' : PM} {io a' : Int} {S : List Int} (h : RdI m io) (hR : Rd m m' io a' S) (h1 : m 53 2 ≤ a') (h2 : a' ≤ m 53 1) (h3 : m io 1 + S.length ≤ a') : RdI m' io := by
  obtain ⟨a1, a2, a3, a4, a5, a6, a7⟩ := h
  obtain ⟨⟨b1, b2, b3, b4⟩, b5, -⟩ := hR
  have e1 := b2 1 (by omega)
  have hq := a4
  unfold ioA at hq
  have e54 : m' 54 = m 54 := b1 54 (by omega) (by omega) (by omega)
  exact ⟨by omega, by omega, by rw [e1, e54]; exact a3, a4, by rw [b2 7 (by omega)]; exact a5, by omega, by omega⟩
theorem KT_d {m m' : PM} {io a' : Int} (h : KT m) (hio : ioA io) (hR : Rf m m' io a') : KT m' := by
  unfold ioA at hio
  unfold KT
  rw [hR.1 (-20) (by omega) (by omega) (by omega), hR.1 (-21) (by omega) (by omega) (by omega), hR.1 (-22) (by omega) (by omega) (by omega)]
  exact h
def SpecB (μ D : Nat) (dep : Int) (F : (Int → Int) → Int → Int → RR) : Prop := ∀ {d : Nat} {m : PM} {dy : List (Nat × Nat)} {L : Nat} {io : Int} {Q : Option PV → PS → Prop}, D ≤ d → KT m → RdI m io → ((F (m 54) (m 53 1) (m 53 2)).1 = true → ∀ m' : PM, Rd m m' io (F (m 54) (m 53 1) (m 53 2)).2.1 (F (m 54) (m 53 1) (m 53 2)).2.2 → Q (some (.inl 1)) (m', (none, (dy, L)))) → ((F (m 54) (m 53 1) (m 53 2)).1 = false → ∀ m' : PM, Rf m m' io (F (m 54) (m 53 1) (m 53 2)).2.1 → Q (some (.inl 0)) (m', (none, (dy, L)))) → C d μ [.inr (.inr 53), .inl dep] (m, (none, (dy, L))) Q
theorem rel_of {x : Int} : (if 60 ≤ x ∧ x ≤ 62 then x - 60 else -1 : Int) = -1 ∨ (60 ≤ x ∧ x ≤ 62 ∧ (if 60 ≤ x ∧ x ≤ 62 then x - 60 else -1 : Int) = x - 60) := by split <;> omega
def rlF (x : Int) : Int := if 60 ≤ x ∧ x ≤ 62 then x - 60 else -1
theorem rlF_of (x : Int) : (rlF x = -1 ∧ ¬ (60 ≤ x ∧ x ≤ 62)) ∨ (60 ≤ x ∧ x ≤ 62 ∧ rlF x = x - 60) := by unfold rlF; split <;> omega
set_option maxRecDepth 2000 in
set_option maxHeartbeats 1000000 in
theorem k_test {d : Nat} {io : Int} {m : PM} {dy : List (Nat × Nat)} {L : Nat} {Q : Option PV → PS → Prop} (hd : 5 ≤ d) (hK : KT m) (hI : RdI m io) (o1 : (tst (m 54) (m 53 1) (m 53 2)).1 = true → ∀ m' : PM, Rd m m' io (tst (m 54) (m 53 1) (m 53 2)).2.1 (tst (m 54) (m 53 1) (m 53 2)).2.2 → Q (some (.inl 1)) (m', (none, (dy, L)))) (o2 : (tst (m 54) (m 53 1) (m 53 2)).1 = false → ∀ m' : PM, Rf m m' io (tst (m 54) (m 53 1) (m 53 2)).2.1 → Q (some (.inl 0)) (m', (none, (dy, L)))) : C d 48 [.inr (.inr 53), .inl (nxt (m 54) (m 53 1) (m 53 2))] (m, (none, (dy, L))) Q := by
  refine C_go (k := 4) hd xL_48 (fun d hd => ?_)
  show V d 48 (0, ([some (.inr (.inr 53)), some (.inl (nxt (m 54) (m 53 1) (m 53 2))), none, none, none], ([], (m, (none, (dy, L)))))) Q
  obtain ⟨a1, a2, a3, a4, a5, a6, a7⟩ := hI
  have hio := a4
  unfold ioA at hio
  have hnt : ∀ a, a < m 53 1 → nxt (m 54) (m 53 1) a = m 54 a := fun a h => nx_t h
  have hnf : ∀ a, ¬ a < m 53 1 → nxt (m 54) (m 53 1) a = -1 := fun a h => nx_f h
  have t0 := hnt (m 53 2)
  have f0 := hnf (m 53 2)
  have t1 := hnt (m 53 2 + 1)
  have f1 := hnf (m 53 2 + 1)
  have c0 := a3 (m 53 2) (by omega)
  have c1 := a3 (m 53 2 + 1) (by omega)
  have hp0 : 0 ≤ plc (nxt (m 54) (m 53 1) (m 53 2)) → _ := plc_in (c := nxt (m 54) (m 53 1) (m 53 2))
  refine v_iload_n (n := 1) xB_48 dX5_test_0 rfl rfl ?_
  refine v_if_ge (t := 8) (n := 4) xB_48 dX5_test_1 (by decide) rfl rfl (fun g1 => ?_) (fun g1 => ?_)
  · (try simp (disch := omega) only [sA_same, sA_ne, sA_sA, sA_sr, sB_s, ud_eq, ud_ne, ud_ud, ud_sr, uB_s, Int.add_zero, Int.reduceAdd] at g1)
    refine v_ldc_r (n := 10) xB_48 dX5_test_8 xO_48 lc_5_99 rfl ?_
    refine v_iload_n (n := 11) xB_48 dX5_test_10 rfl rfl ?_
    have hnn := c0
    refine v_i2c (n := 12) xB_48 dX5_test_11 rfl ?_
    rw [show nxt (m 54) (m 53 1) (m 53 2) % 65536 = nxt (m 54) (m 53 1) (m 53 2) by omega]
    refine v_call_t (cls := 0) (n := 15) xB_48 dX5_test_12 xO_48 iv_5_101 rfl (by first | omega | (simp only [sA_same, sA_s, ud_s, Int.reduceEq, if_true, if_false, ite_true, ite_false, ↓reduceIte, and_true, true_and, eq_self, Int.add_zero, Int.reduceAdd]; omega) | (simp (disch := omega) only [sA_same, sA_ne, ud_eq, ud_ne, Int.add_zero, Int.reduceAdd]; omega)) rfl rfl rfl ?_
    refine j_ix (by omega) (Or.inr (Or.inl rfl)) (sh_m21 _ _ _) (by omega) (by decide) ?_
    rw [show (-11 : Int) - 10 = -21 from rfl, ix_plc hK.2.1]
    refine v_istore_n2 (n := 16) xB_48 dX5_test_15 rfl rfl ?_
    refine v_iload_n (n := 17) xB_48 dX5_test_16 rfl rfl ?_
    refine v_if_ge (t := 22) (n := 20) xB_48 dX5_test_17 (by decide) rfl rfl (fun g2 => ?_) (fun g2 => ?_)
    · (try simp (disch := omega) only [sA_same, sA_ne, sA_sA, sA_sr, sB_s, ud_eq, ud_ne, ud_ud, ud_sr, uB_s, Int.add_zero, Int.reduceAdd] at g2)
      refine v_aload_n (n := 23) xB_48 dX5_test_22 rfl rfl ?_
      refine v_dup (n := 24) xB_48 dX5_test_23 rfl rfl ?_
      refine v_gf_i (n := 27) (kz := 2) xB_48 dX5_test_24 xO_48 fl_5_28 fg_5_2 rfl (sh_53 _ _ _) rfl rfl ?_
      refine v_iconst (n := 28) xB_48 dX5_test_27 ⟨by decide, by decide⟩ rfl ?_
      refine v_iadd (n := 29) xB_48 dX5_test_28 (by first | omega | (simp only [sA_same, sA_s, ud_s, Int.reduceEq, if_true, if_false, ite_true, ite_false, ↓reduceIte, and_true, true_and, eq_self, Int.add_zero, Int.reduceAdd]; omega) | (simp (disch := omega) only [sA_same, sA_ne, ud_eq, ud_ne, Int.add_zero, Int.reduceAdd]; omega)) rfl ?_
      refine v_pf_i (n := 32) (kz := 2) xB_48 dX5_test_29 xO_48 fl_5_28 fg_5_2 (Or.inl fn_5_2) (sh_53 _ _ _) (by decide) rfl rfl ?_
      (try simp (disch := omega) only [sA_same, sA_ne, sA_sA, sA_sr, sB_s, ud_eq, ud_ne, ud_ud, ud_sr, uB_s, Int.add_zero, Int.reduceAdd])
      refine v_aload_n (n := 33) xB_48 dX5_test_32 rfl rfl ?_
      refine v_gf_i (n := 36) (kz := 2) xB_48 dX5_test_33 xO_48 fl_5_28 fg_5_2 rfl (sh_53 _ _ _) rfl rfl ?_
      refine v_aload_n (n := 37) xB_48 dX5_test_36 rfl rfl ?_
      refine v_gf_i (n := 40) (kz := 1) xB_48 dX5_test_37 xO_48 fl_5_59 fg_5_1 rfl (sh_53 _ _ _) rfl rfl ?_
      refine v_ic_ge (t := 61) (n := 43) xB_48 dX5_test_40 (by decide) rfl rfl (fun g3 => ?_) (fun g3 => ?_)
      · (try simp (disch := omega) only [sA_same, sA_ne, sA_sA, sA_sr, sB_s, ud_eq, ud_ne, ud_ud, ud_sr, uB_s, Int.add_zero, Int.reduceAdd] at g3)
        refine v_iconst (n := 62) xB_48 dX5_test_61 ⟨by decide, by decide⟩ rfl ?_
        refine v_istore_n3 (n := 63) xB_48 dX5_test_62 rfl rfl ?_
        refine v_iload_n (n := 64) xB_48 dX5_test_63 rfl rfl ?_
        refine v_if_ge_n (n := 67) xB_48 dX5_test_64 (by decide) rfl (by decide) ?_
        refine v_iconst (n := 68) xB_48 dX5_test_67 ⟨by decide, by decide⟩ rfl ?_
        refine v_ireturn1 xB_48 dX5_test_68 xK_48 (by decide) ?_
        first
        | (have q : tst (m 54) (m 53 1) (m 53 2) = (false, (m 53 2, [])) := by unfold tst; rw [if_pos (by omega)]
           rw [q] at o2; exact o2 rfl _ (Rd_refl m io).1)
        | (have q : tst (m 54) (m 53 1) (m 53 2) = (false, (m 53 2 + 1, [])) := by unfold tst; rw [if_neg (by omega), if_pos (by omega)]
           rw [q] at o2; exact o2 rfl _ (Rd_at a4 rfl).1)
        | (have q : tst (m 54) (m 53 1) (m 53 2) = (false, ((nmv (m 54) (m 53 1) (m 53 2 + 1 + 1)).2, [])) := by unfold tst; rw [show m 53 2 + 2 = m 53 2 + 1 + 1 by omega, if_neg (by omega), if_neg (by omega), if_pos (by omega)]; refine Prod.ext rfl (Prod.ext ?_ rfl); show m 53 2 + 1 + 1 = (nmv (m 54) (m 53 1) (m 53 2 + 1 + 1)).2; omega
           rw [q] at o2; exact o2 rfl _ (Rd_at a4 rfl).1)
        | (have q : tst (m 54) (m 53 1) (m 53 2) = (true, ((nmv (m 54) (m 53 1) (m 53 2 + 1 + 1)).2, [(plc (nxt (m 54) (m 53 1) (m 53 2)) * 3 + ((nxt (m 54) (m 53 1) (m 53 2 + 1)) - 60)) * 100 + (nmv (m 54) (m 53 1) (m 53 2 + 1 + 1)).1])) := by unfold tst; rw [show m 53 2 + 2 = m 53 2 + 1 + 1 by omega, if_neg (by omega), if_neg (by omega), if_neg (by omega)]
           rw [q] at o1
           rw [show rlF (m 54 (m 53 2 + 1)) = (nxt (m 54) (m 53 1) (m 53 2 + 1)) - 60 by omega]
           refine o1 rfl _ ?_
           refine Rd_trans (Rd_at (m := m) (a' := (nmv (m 54) (m 53 1) (m 53 2 + 1 + 1)).2) a4 rfl) (cast (congrArg (fun z => Rd (setA m 53 (ud (m 53) 2 (nmv (m 54) (m 53 1) (m 53 2 + 1 + 1)).2)) _ io z _) ?_) (Rd_add a4 ?_))
           · rw [sA_same, ud_eq]
           · simp (disch := omega) only [sA_same, sA_ne, sA_sA, sA_sr, sB_s, ud_eq, ud_ne, ud_ud, ud_sr, uB_s, Int.add_zero, Int.reduceAdd]
             first | rfl | skip)
      · (try simp (disch := omega) only [sA_same, sA_ne, sA_sA, sA_sr, sB_s, ud_eq, ud_ne, ud_ud, ud_sr, uB_s, Int.add_zero, Int.reduceAdd] at g3)
        refine v_ldc_r (n := 45) xB_48 dX5_test_43 xO_48 lc_5_107 rfl ?_
        refine v_aload_n (n := 46) xB_48 dX5_test_45 rfl rfl ?_
        refine v_gf_s (n := 49) (kz := 0) xB_48 dX5_test_46 xO_48 fl_5_9 fg_5_0 (sh_53 _ _ _) rfl st_53_0 rfl ?_
        refine v_aload_n (n := 50) xB_48 dX5_test_49 rfl rfl ?_
        refine v_gf_i (n := 53) (kz := 2) xB_48 dX5_test_50 xO_48 fl_5_28 fg_5_2 rfl (sh_53 _ _ _) rfl rfl ?_
        refine v_iaload (n := 54) (lz := 100) xB_48 dX5_test_53 (sh_54 _ _ _) rfl (by first | omega | (simp only [sA_same, sA_s, ud_s, Int.reduceEq, if_true, if_false, ite_true, ite_false, ↓reduceIte, and_true, true_and, eq_self, Int.add_zero, Int.reduceAdd]; omega) | (simp (disch := omega) only [sA_same, sA_ne, ud_eq, ud_ne, Int.add_zero, Int.reduceAdd]; omega)) rfl ?_
        refine v_i2c (n := 55) xB_48 dX5_test_54 rfl ?_
        (try simp (disch := omega) only [sA_same, sA_ne, sA_sA, sA_sr, sB_s, ud_eq, ud_ne, ud_ud, ud_sr, uB_s, Int.add_zero, Int.reduceAdd])
        rw [show m 54 (m 53 2 + 1) % 65536 = m 54 (m 53 2 + 1) by omega]
        refine v_call_t (cls := 0) (n := 58) xB_48 dX5_test_55 xO_48 iv_5_101 rfl (by first | omega | (simp only [sA_same, sA_s, ud_s, Int.reduceEq, if_true, if_false, ite_true, ite_false, ↓reduceIte, and_true, true_and, eq_self, Int.add_zero, Int.reduceAdd]; omega) | (simp (disch := omega) only [sA_same, sA_ne, ud_eq, ud_ne, Int.add_zero, Int.reduceAdd]; omega)) rfl rfl rfl ?_
        refine j_ix (by omega) (Or.inr (Or.inr rfl)) (sh_m22 _ _ _) (by omega) (by decide) ?_
        rw [show (-12 : Int) - 10 = -22 from rfl, ix_rel (by intro i hi; simp (disch := omega) only [sA_ne]; exact hK.2.2 i hi), show (if 60 ≤ m 54 (m 53 2 + 1) ∧ m 54 (m 53 2 + 1) ≤ 62 then m 54 (m 53 2 + 1) - 60 else -1 : Int) = rlF (m 54 (m 53 2 + 1)) from rfl]
        have hr0 := rlF_of (m 54 (m 53 2 + 1))
        refine v_goto (t := 62) xB_48 dX5_test_58 (by decide) rfl ?_
        refine v_istore_n3 (n := 63) xB_48 dX5_test_62 rfl rfl ?_
        refine v_iload_n (n := 64) xB_48 dX5_test_63 rfl rfl ?_
        refine v_if_ge (t := 69) (n := 67) xB_48 dX5_test_64 (by decide) rfl rfl (fun g4 => ?_) (fun g4 => ?_)
        · (try simp (disch := omega) only [sA_same, sA_ne, sA_sA, sA_sr, sB_s, ud_eq, ud_ne, ud_ud, ud_sr, uB_s, Int.add_zero, Int.reduceAdd] at g4)
          refine v_aload_n (n := 70) xB_48 dX5_test_69 rfl rfl ?_
          refine v_dup (n := 71) xB_48 dX5_test_70 rfl rfl ?_
          refine v_gf_i (n := 74) (kz := 2) xB_48 dX5_test_71 xO_48 fl_5_28 fg_5_2 rfl (sh_53 _ _ _) rfl rfl ?_
          refine v_iconst (n := 75) xB_48 dX5_test_74 ⟨by decide, by decide⟩ rfl ?_
          refine v_iadd (n := 76) xB_48 dX5_test_75 (by first | omega | (simp only [sA_same, sA_s, ud_s, Int.reduceEq, if_true, if_false, ite_true, ite_false, ↓reduceIte, and_true, true_and, eq_self, Int.add_zero, Int.reduceAdd]; omega) | (simp (disch := omega) only [sA_same, sA_ne, ud_eq, ud_ne, Int.add_zero, Int.reduceAdd]; omega)) rfl ?_
          refine v_pf_i (n := 79) (kz := 2) xB_48 dX5_test_76 xO_48 fl_5_28 fg_5_2 (Or.inl fn_5_2) (sh_53 _ _ _) (by decide) rfl rfl ?_
          (try simp (disch := omega) only [sA_same, sA_ne, sA_sA, sA_sr, sB_s, ud_eq, ud_ne, ud_ud, ud_sr, uB_s, Int.add_zero, Int.reduceAdd])
          refine v_aload_n (n := 80) xB_48 dX5_test_79 rfl rfl ?_
          refine v_call_v (n := 83) xB_48 dX5_test_80 xO_48 iv_5_78 rfl (sh_53 _ _ _) rfl rfl rfl ?_
          refine k_number (by omega) (by simp (disch := omega) only [sA_same, sA_ne, sA_sA, sA_sr, sB_s, ud_eq, ud_ne, ud_ud, ud_sr, uB_s, Int.add_zero, Int.reduceAdd]; omega) ?_
          (try simp (disch := omega) only [sA_same, sA_ne, sA_sA, sA_sr, sB_s, ud_eq, ud_ne, ud_ud, ud_sr, uB_s, Int.add_zero, Int.reduceAdd])
          refine v_istore4 (n := 85) xB_48 dX5_test_83 rfl rfl ?_
          have nm := nmv_in (m 54) (n := m 53 1) (a := m 53 2 + 1 + 1) (by omega)
          refine v_iload (n := 87) xB_48 dX5_test_85 rfl rfl ?_
          refine v_if_ge (t := 92) (n := 90) xB_48 dX5_test_87 (by decide) rfl rfl (fun g5 => ?_) (fun g5 => ?_)
          · (try simp (disch := omega) only [sA_same, sA_ne, sA_sA, sA_sr, sB_s, ud_eq, ud_ne, ud_ud, ud_sr, uB_s, Int.add_zero, Int.reduceAdd] at g5)
            refine v_aload_n (n := 93) xB_48 dX5_test_92 rfl rfl ?_
            refine v_gf_d (n := 96) (kz := 7) xB_48 dX5_test_93 xO_48 fl_5_25 fg_5_7 (sh_53 _ _ _) rfl st_53_7 rfl ?_
            (try simp (disch := omega) only [sA_same, sA_ne, sA_sA, sA_sr, sB_s, ud_eq, ud_ne, ud_ud, ud_sr, uB_s, Int.add_zero, Int.reduceAdd])
            rw [a5]
            refine v_iload_n (n := 97) xB_48 dX5_test_96 rfl rfl ?_
            refine v_iconst (n := 98) xB_48 dX5_test_97 ⟨by decide, by decide⟩ rfl ?_
            refine v_imul (n := 99) xB_48 dX5_test_98 (by first | omega | (simp only [sA_same, sA_s, ud_s, Int.reduceEq, if_true, if_false, ite_true, ite_false, ↓reduceIte, and_true, true_and, eq_self, Int.add_zero, Int.reduceAdd]; omega) | (simp (disch := omega) only [sA_same, sA_ne, ud_eq, ud_ne, Int.add_zero, Int.reduceAdd]; omega)) rfl ?_
            refine v_iload_n (n := 100) xB_48 dX5_test_99 rfl rfl ?_
            refine v_iadd (n := 101) xB_48 dX5_test_100 (by first | omega | (simp only [sA_same, sA_s, ud_s, Int.reduceEq, if_true, if_false, ite_true, ite_false, ↓reduceIte, and_true, true_and, eq_self, Int.add_zero, Int.reduceAdd]; omega) | (simp (disch := omega) only [sA_same, sA_ne, ud_eq, ud_ne, Int.add_zero, Int.reduceAdd]; omega)) rfl ?_
            refine v_bipush (n := 103) xB_48 dX5_test_101 ⟨by decide, by decide⟩ rfl ?_
            refine v_imul (n := 104) xB_48 dX5_test_103 (by first | omega | (simp only [sA_same, sA_s, ud_s, Int.reduceEq, if_true, if_false, ite_true, ite_false, ↓reduceIte, and_true, true_and, eq_self, Int.add_zero, Int.reduceAdd]; omega) | (simp (disch := omega) only [sA_same, sA_ne, ud_eq, ud_ne, Int.add_zero, Int.reduceAdd]; omega)) rfl ?_
            refine v_iload (n := 106) xB_48 dX5_test_104 rfl rfl ?_
            refine v_iadd (n := 107) xB_48 dX5_test_106 (by first | omega | (simp only [sA_same, sA_s, ud_s, Int.reduceEq, if_true, if_false, ite_true, ite_false, ↓reduceIte, and_true, true_and, eq_self, Int.add_zero, Int.reduceAdd]; omega) | (simp (disch := omega) only [sA_same, sA_ne, ud_eq, ud_ne, Int.add_zero, Int.reduceAdd]; omega)) rfl ?_
            refine v_call_v (n := 110) xB_48 dX5_test_107 xO_48 iv_5_74 rfl (sh_io hio _ _ _) rfl rfl rfl ?_
            refine k_stepadd (by omega) a4 (by simp (disch := omega) only [sA_same, sA_ne, sA_sA, sA_sr, sB_s, ud_eq, ud_ne, ud_ud, ud_sr, uB_s, Int.add_zero, Int.reduceAdd]; omega) ?_
            (try simp (disch := omega) only [sA_same, sA_ne, sA_sA, sA_sr, sB_s, ud_eq, ud_ne, ud_ud, ud_sr, uB_s, Int.add_zero, Int.reduceAdd])
            refine v_iconst (n := 111) xB_48 dX5_test_110 ⟨by decide, by decide⟩ rfl ?_
            refine v_ireturn1 xB_48 dX5_test_111 xK_48 (by decide) ?_
            first
            | (have q : tst (m 54) (m 53 1) (m 53 2) = (false, (m 53 2, [])) := by unfold tst; rw [if_pos (by omega)]
               rw [q] at o2; exact o2 rfl _ (Rd_refl m io).1)
            | (have q : tst (m 54) (m 53 1) (m 53 2) = (false, (m 53 2 + 1, [])) := by unfold tst; rw [if_neg (by omega), if_pos (by omega)]
               rw [q] at o2; exact o2 rfl _ (Rd_at a4 rfl).1)
            | (have q : tst (m 54) (m 53 1) (m 53 2) = (false, ((nmv (m 54) (m 53 1) (m 53 2 + 1 + 1)).2, [])) := by unfold tst; rw [show m 53 2 + 2 = m 53 2 + 1 + 1 by omega, if_neg (by omega), if_neg (by omega), if_pos (by omega)]; refine Prod.ext rfl (Prod.ext ?_ rfl); show m 53 2 + 1 + 1 = (nmv (m 54) (m 53 1) (m 53 2 + 1 + 1)).2; omega
               rw [q] at o2; exact o2 rfl _ (Rd_at a4 rfl).1)
            | (have q : tst (m 54) (m 53 1) (m 53 2) = (true, ((nmv (m 54) (m 53 1) (m 53 2 + 1 + 1)).2, [(plc (nxt (m 54) (m 53 1) (m 53 2)) * 3 + ((nxt (m 54) (m 53 1) (m 53 2 + 1)) - 60)) * 100 + (nmv (m 54) (m 53 1) (m 53 2 + 1 + 1)).1])) := by unfold tst; rw [show m 53 2 + 2 = m 53 2 + 1 + 1 by omega, if_neg (by omega), if_neg (by omega), if_neg (by omega)]
               rw [q] at o1
               rw [show rlF (m 54 (m 53 2 + 1)) = (nxt (m 54) (m 53 1) (m 53 2 + 1)) - 60 by omega]
               refine o1 rfl _ ?_
               refine Rd_trans (Rd_at (m := m) (a' := (nmv (m 54) (m 53 1) (m 53 2 + 1 + 1)).2) a4 rfl) (cast (congrArg (fun z => Rd (setA m 53 (ud (m 53) 2 (nmv (m 54) (m 53 1) (m 53 2 + 1 + 1)).2)) _ io z _) ?_) (Rd_add a4 ?_))
               · rw [sA_same, ud_eq]
               · simp (disch := omega) only [sA_same, sA_ne, sA_sA, sA_sr, sB_s, ud_eq, ud_ne, ud_ud, ud_sr, uB_s, Int.add_zero, Int.reduceAdd]
                 first | rfl | skip)
          · (try simp (disch := omega) only [sA_same, sA_ne, sA_sA, sA_sr, sB_s, ud_eq, ud_ne, ud_ud, ud_sr, uB_s, Int.add_zero, Int.reduceAdd] at g5)
            refine v_iconst (n := 91) xB_48 dX5_test_90 ⟨by decide, by decide⟩ rfl ?_
            refine v_ireturn1 xB_48 dX5_test_91 xK_48 (by decide) ?_
            first
            | (have q : tst (m 54) (m 53 1) (m 53 2) = (false, (m 53 2, [])) := by unfold tst; rw [if_pos (by omega)]
               rw [q] at o2; exact o2 rfl _ (Rd_refl m io).1)
            | (have q : tst (m 54) (m 53 1) (m 53 2) = (false, (m 53 2 + 1, [])) := by unfold tst; rw [if_neg (by omega), if_pos (by omega)]
               rw [q] at o2; exact o2 rfl _ (Rd_at a4 rfl).1)
            | (have q : tst (m 54) (m 53 1) (m 53 2) = (false, ((nmv (m 54) (m 53 1) (m 53 2 + 1 + 1)).2, [])) := by unfold tst; rw [show m 53 2 + 2 = m 53 2 + 1 + 1 by omega, if_neg (by omega), if_neg (by omega), if_pos (by omega)]; refine Prod.ext rfl (Prod.ext ?_ rfl); show m 53 2 + 1 + 1 = (nmv (m 54) (m 53 1) (m 53 2 + 1 + 1)).2; omega
               rw [q] at o2; exact o2 rfl _ (Rd_at a4 rfl).1)
            | (have q : tst (m 54) (m 53 1) (m 53 2) = (true, ((nmv (m 54) (m 53 1) (m 53 2 + 1 + 1)).2, [(plc (nxt (m 54) (m 53 1) (m 53 2)) * 3 + ((nxt (m 54) (m 53 1) (m 53 2 + 1)) - 60)) * 100 + (nmv (m 54) (m 53 1) (m 53 2 + 1 + 1)).1])) := by unfold tst; rw [show m 53 2 + 2 = m 53 2 + 1 + 1 by omega, if_neg (by omega), if_neg (by omega), if_neg (by omega)]
               rw [q] at o1
               rw [show rlF (m 54 (m 53 2 + 1)) = (nxt (m 54) (m 53 1) (m 53 2 + 1)) - 60 by omega]
               refine o1 rfl _ ?_
               refine Rd_trans (Rd_at (m := m) (a' := (nmv (m 54) (m 53 1) (m 53 2 + 1 + 1)).2) a4 rfl) (cast (congrArg (fun z => Rd (setA m 53 (ud (m 53) 2 (nmv (m 54) (m 53 1) (m 53 2 + 1 + 1)).2)) _ io z _) ?_) (Rd_add a4 ?_))
               · rw [sA_same, ud_eq]
               · simp (disch := omega) only [sA_same, sA_ne, sA_sA, sA_sr, sB_s, ud_eq, ud_ne, ud_ud, ud_sr, uB_s, Int.add_zero, Int.reduceAdd]
                 first | rfl | skip)
        · (try simp (disch := omega) only [sA_same, sA_ne, sA_sA, sA_sr, sB_s, ud_eq, ud_ne, ud_ud, ud_sr, uB_s, Int.add_zero, Int.reduceAdd] at g4)
          refine v_iconst (n := 68) xB_48 dX5_test_67 ⟨by decide, by decide⟩ rfl ?_
          refine v_ireturn1 xB_48 dX5_test_68 xK_48 (by decide) ?_
          first
          | (have q : tst (m 54) (m 53 1) (m 53 2) = (false, (m 53 2, [])) := by unfold tst; rw [if_pos (by omega)]
             rw [q] at o2; exact o2 rfl _ (Rd_refl m io).1)
          | (have q : tst (m 54) (m 53 1) (m 53 2) = (false, (m 53 2 + 1, [])) := by unfold tst; rw [if_neg (by omega), if_pos (by omega)]
             rw [q] at o2; exact o2 rfl _ (Rd_at a4 rfl).1)
          | (have q : tst (m 54) (m 53 1) (m 53 2) = (false, ((nmv (m 54) (m 53 1) (m 53 2 + 1 + 1)).2, [])) := by unfold tst; rw [show m 53 2 + 2 = m 53 2 + 1 + 1 by omega, if_neg (by omega), if_neg (by omega), if_pos (by omega)]; refine Prod.ext rfl (Prod.ext ?_ rfl); show m 53 2 + 1 + 1 = (nmv (m 54) (m 53 1) (m 53 2 + 1 + 1)).2; omega
             rw [q] at o2; exact o2 rfl _ (Rd_at a4 rfl).1)
          | (have q : tst (m 54) (m 53 1) (m 53 2) = (true, ((nmv (m 54) (m 53 1) (m 53 2 + 1 + 1)).2, [(plc (nxt (m 54) (m 53 1) (m 53 2)) * 3 + ((nxt (m 54) (m 53 1) (m 53 2 + 1)) - 60)) * 100 + (nmv (m 54) (m 53 1) (m 53 2 + 1 + 1)).1])) := by unfold tst; rw [show m 53 2 + 2 = m 53 2 + 1 + 1 by omega, if_neg (by omega), if_neg (by omega), if_neg (by omega)]
             rw [q] at o1
             rw [show rlF (m 54 (m 53 2 + 1)) = (nxt (m 54) (m 53 1) (m 53 2 + 1)) - 60 by omega]
             refine o1 rfl _ ?_
             refine Rd_trans (Rd_at (m := m) (a' := (nmv (m 54) (m 53 1) (m 53 2 + 1 + 1)).2) a4 rfl) (cast (congrArg (fun z => Rd (setA m 53 (ud (m 53) 2 (nmv (m 54) (m 53 1) (m 53 2 + 1 + 1)).2)) _ io z _) ?_) (Rd_add a4 ?_))
             · rw [sA_same, ud_eq]
             · simp (disch := omega) only [sA_same, sA_ne, sA_sA, sA_sr, sB_s, ud_eq, ud_ne, ud_ud, ud_sr, uB_s, Int.add_zero, Int.reduceAdd]
               first | rfl | skip)
    · (try simp (disch := omega) only [sA_same, sA_ne, sA_sA, sA_sr, sB_s, ud_eq, ud_ne, ud_ud, ud_sr, uB_s, Int.add_zero, Int.reduceAdd] at g2)
      refine v_iconst (n := 21) xB_48 dX5_test_20 ⟨by decide, by decide⟩ rfl ?_
      refine v_ireturn1 xB_48 dX5_test_21 xK_48 (by decide) ?_
      first
      | (have q : tst (m 54) (m 53 1) (m 53 2) = (false, (m 53 2, [])) := by unfold tst; rw [if_pos (by omega)]
         rw [q] at o2; exact o2 rfl _ (Rd_refl m io).1)
      | (have q : tst (m 54) (m 53 1) (m 53 2) = (false, (m 53 2 + 1, [])) := by unfold tst; rw [if_neg (by omega), if_pos (by omega)]
         rw [q] at o2; exact o2 rfl _ (Rd_at a4 rfl).1)
      | (have q : tst (m 54) (m 53 1) (m 53 2) = (false, ((nmv (m 54) (m 53 1) (m 53 2 + 1 + 1)).2, [])) := by unfold tst; rw [show m 53 2 + 2 = m 53 2 + 1 + 1 by omega, if_neg (by omega), if_neg (by omega), if_pos (by omega)]; refine Prod.ext rfl (Prod.ext ?_ rfl); show m 53 2 + 1 + 1 = (nmv (m 54) (m 53 1) (m 53 2 + 1 + 1)).2; omega
         rw [q] at o2; exact o2 rfl _ (Rd_at a4 rfl).1)
      | (have q : tst (m 54) (m 53 1) (m 53 2) = (true, ((nmv (m 54) (m 53 1) (m 53 2 + 1 + 1)).2, [(plc (nxt (m 54) (m 53 1) (m 53 2)) * 3 + ((nxt (m 54) (m 53 1) (m 53 2 + 1)) - 60)) * 100 + (nmv (m 54) (m 53 1) (m 53 2 + 1 + 1)).1])) := by unfold tst; rw [show m 53 2 + 2 = m 53 2 + 1 + 1 by omega, if_neg (by omega), if_neg (by omega), if_neg (by omega)]
         rw [q] at o1
         rw [show rlF (m 54 (m 53 2 + 1)) = (nxt (m 54) (m 53 1) (m 53 2 + 1)) - 60 by omega]
         refine o1 rfl _ ?_
         refine Rd_trans (Rd_at (m := m) (a' := (nmv (m 54) (m 53 1) (m 53 2 + 1 + 1)).2) a4 rfl) (cast (congrArg (fun z => Rd (setA m 53 (ud (m 53) 2 (nmv (m 54) (m 53 1) (m 53 2 + 1 + 1)).2)) _ io z _) ?_) (Rd_add a4 ?_))
         · rw [sA_same, ud_eq]
         · simp (disch := omega) only [sA_same, sA_ne, sA_sA, sA_sr, sB_s, ud_eq, ud_ne, ud_ud, ud_sr, uB_s, Int.add_zero, Int.reduceAdd]
           first | rfl | skip)
  · (try simp (disch := omega) only [sA_same, sA_ne, sA_sA, sA_sr, sB_s, ud_eq, ud_ne, ud_ud, ud_sr, uB_s, Int.add_zero, Int.reduceAdd] at g1)
    refine v_iconst (n := 5) xB_48 dX5_test_4 ⟨by decide, by decide⟩ rfl ?_
    refine v_goto (t := 15) xB_48 dX5_test_5 (by decide) rfl ?_
    refine v_istore_n2 (n := 16) xB_48 dX5_test_15 rfl rfl ?_
    refine v_iload_n (n := 17) xB_48 dX5_test_16 rfl rfl ?_
    refine v_if_ge_n (n := 20) xB_48 dX5_test_17 (by decide) rfl (by decide) ?_
    refine v_iconst (n := 21) xB_48 dX5_test_20 ⟨by decide, by decide⟩ rfl ?_
    refine v_ireturn1 xB_48 dX5_test_21 xK_48 (by decide) ?_
    first
    | (have q : tst (m 54) (m 53 1) (m 53 2) = (false, (m 53 2, [])) := by unfold tst; rw [if_pos (by omega)]
       rw [q] at o2; exact o2 rfl _ (Rd_refl m io).1)
    | (have q : tst (m 54) (m 53 1) (m 53 2) = (false, (m 53 2 + 1, [])) := by unfold tst; rw [if_neg (by omega), if_pos (by omega)]
       rw [q] at o2; exact o2 rfl _ (Rd_at a4 rfl).1)
    | (have q : tst (m 54) (m 53 1) (m 53 2) = (false, ((nmv (m 54) (m 53 1) (m 53 2 + 1 + 1)).2, [])) := by unfold tst; rw [show m 53 2 + 2 = m 53 2 + 1 + 1 by omega, if_neg (by omega), if_neg (by omega), if_pos (by omega)]; refine Prod.ext rfl (Prod.ext ?_ rfl); show m 53 2 + 1 + 1 = (nmv (m 54) (m 53 1) (m 53 2 + 1 + 1)).2; omega
       rw [q] at o2; exact o2 rfl _ (Rd_at a4 rfl).1)
    | (have q : tst (m 54) (m 53 1) (m 53 2) = (true, ((nmv (m 54) (m 53 1) (m 53 2 + 1 + 1)).2, [(plc (nxt (m 54) (m 53 1) (m 53 2)) * 3 + ((nxt (m 54) (m 53 1) (m 53 2 + 1)) - 60)) * 100 + (nmv (m 54) (m 53 1) (m 53 2 + 1 + 1)).1])) := by unfold tst; rw [show m 53 2 + 2 = m 53 2 + 1 + 1 by omega, if_neg (by omega), if_neg (by omega), if_neg (by omega)]
       rw [q] at o1
       rw [show rlF (m 54 (m 53 2 + 1)) = (nxt (m 54) (m 53 1) (m 53 2 + 1)) - 60 by omega]
       refine o1 rfl _ ?_
       refine Rd_trans (Rd_at (m := m) (a' := (nmv (m 54) (m 53 1) (m 53 2 + 1 + 1)).2) a4 rfl) (cast (congrArg (fun z => Rd (setA m 53 (ud (m 53) 2 (nmv (m 54) (m 53 1) (m 53 2 + 1 + 1)).2)) _ io z _) ?_) (Rd_add a4 ?_))
       · rw [sA_same, ud_eq]
       · simp (disch := omega) only [sA_same, sA_ne, sA_sA, sA_sr, sB_s, ud_eq, ud_ne, ud_ud, ud_sr, uB_s, Int.add_zero, Int.reduceAdd]
         first | rfl | skip)
