/-! The class: a pile changed. -/
set_option maxHeartbeats 1000000 in
theorem k_putBlank {d : Nat} {p n e : Int} {m : PM} {dy : List (Nat × Nat)} {L : Nat} {Q : Option PV → PS → Prop} (hd : 1 ≤ d) (hp : pilA p) (hN : 0 ≤ m p 1 ∧ m p 1 ≤ 12) (hn : 1 ≤ n ∧ n ≤ 12) (hc : okc (m (p + 1))) (he : mnF n (12 - m p 1) = e) (o1 : ∀ f : Int → Int, okc f → (∀ s, 0 ≤ s → s < m p 1 + e → f s = if s < e then 0 else m (p + 1) (s - e)) → Q (none) (setA (setA m p (ud (m p) 1 (m p 1 + e))) (p + 1) f, (none, (dy, L)))) : C d 35 [.inr (.inr p), .inl n] (m, (none, (dy, L))) Q := by
  refine C_go (k := 0) hd xL_35 (fun d hd => ?_)
  show V d 35 (0, ([some (.inr (.inr p)), some (.inl n), none, none], ([], (m, (none, (dy, L)))))) Q
  have hpd : p = 2 ∨ p = 28 ∨ p = 62 ∨ p = 64 := hp
  have he2 : 0 ≤ e ∧ e ≤ 12 - m p 1 := by rw [← he]; unfold mnF; split <;> omega
  refine v_iload_n (n := 1) xB_35 dX4_putBlank_0 rfl rfl ?_
  refine v_bipush (n := 3) xB_35 dX4_putBlank_1 ⟨by decide, by decide⟩ rfl ?_
  refine v_aload_n (n := 4) xB_35 dX4_putBlank_3 rfl rfl ?_
  refine v_gf_i (n := 7) (kz := 1) xB_35 dX4_putBlank_4 xO_35 fl_4_21 fg_4_1 rfl (sh_P hp _ _ _) rfl rfl ?_
  refine v_isub (n := 8) xB_35 dX4_putBlank_7 (by first | omega | (simp only [sA_same, sA_s, ud_s, Int.reduceEq, if_true, if_false, ite_true, ite_false, ↓reduceIte, and_true, true_and, eq_self, Int.add_zero, Int.reduceAdd]; omega) | (simp (disch := omega) only [sA_same, sA_ne, ud_eq, ud_ne, Int.add_zero, Int.reduceAdd]; omega)) rfl ?_
  refine v_min (n := 11) xB_35 dX4_putBlank_8 xO_35 sp_4_41 rfl rfl ?_
  rw [show (if 12 - m p 1 < n then 12 - m p 1 else n) = mnF n (12 - m p 1) from rfl, he]
  refine v_istore_n2 (n := 12) xB_35 dX4_putBlank_11 rfl rfl ?_
  refine v_aload_n (n := 13) xB_35 dX4_putBlank_12 rfl rfl ?_
  refine v_gf_i (n := 16) (kz := 1) xB_35 dX4_putBlank_13 xO_35 fl_4_21 fg_4_1 rfl (sh_P hp _ _ _) rfl rfl ?_
  refine v_iconst (n := 17) xB_35 dX4_putBlank_16 ⟨by decide, by decide⟩ rfl ?_
  refine v_isub (n := 18) xB_35 dX4_putBlank_17 (by first | omega | (simp only [sA_same, sA_s, ud_s, Int.reduceEq, if_true, if_false, ite_true, ite_false, ↓reduceIte, and_true, true_and, eq_self, Int.add_zero, Int.reduceAdd]; omega) | (simp (disch := omega) only [sA_same, sA_ne, ud_eq, ud_ne, Int.add_zero, Int.reduceAdd]; omega)) rfl ?_
  refine v_istore_n3 (n := 19) xB_35 dX4_putBlank_18 rfl rfl ?_
  refine lp_dn (F := fun (k : Int) (m' : PM) => V d 35 (19, ([some (.inr (.inr p)), some (.inl n), some (.inl e), some (.inl (k))], ([], (m', (none, (dy, L)))))) Q) (E := fun (k : Int) (m' : PM) => m' = setA m (p + 1) (ivl (fun x => m (p + 1) (x - e)) (m (p + 1)) (e + k + 1) (e + m p 1))) (a := -1) (b := m p 1 - 1) ?_ ?_ (m p 1 - 1) (_) (by first | omega | (simp only [sA_same, sA_s, ud_s, Int.reduceEq, if_true, if_false, ite_true, ite_false, ↓reduceIte, and_true, true_and, eq_self, Int.add_zero, Int.reduceAdd]; omega) | (simp (disch := omega) only [sA_same, sA_ne, ud_eq, ud_ne, Int.add_zero, Int.reduceAdd]; omega)) (by first | omega | (simp only [sA_same, sA_s, ud_s, Int.reduceEq, if_true, if_false, ite_true, ite_false, ↓reduceIte, and_true, true_and, eq_self, Int.add_zero, Int.reduceAdd]; omega) | (simp (disch := omega) only [sA_same, sA_ne, ud_eq, ud_ne, Int.add_zero, Int.reduceAdd]; omega)) ?_
  · intro m' hm 
    show V d 35 (19, ([some (.inr (.inr p)), some (.inl n), some (.inl e), some (.inl (-1))], ([], (m', (none, (dy, L)))))) Q
    subst hm
    refine v_iload_n (n := 20) xB_35 dX4_putBlank_19 rfl rfl ?_
    refine v_if_lt_y (t := 43) xB_35 dX4_putBlank_20 (by decide) rfl (by first | omega | (simp only [sA_same, sA_s, ud_s, Int.reduceEq, if_true, if_false, ite_true, ite_false, ↓reduceIte, and_true, true_and, eq_self, Int.add_zero, Int.reduceAdd]; omega) | (simp (disch := omega) only [sA_same, sA_ne, ud_eq, ud_ne, Int.add_zero, Int.reduceAdd]; omega)) ?_
    refine v_iconst (n := 44) xB_35 dX4_putBlank_43 ⟨by decide, by decide⟩ rfl ?_
    refine v_istore_n3 (n := 45) xB_35 dX4_putBlank_44 rfl rfl ?_
    refine lp_up (F := fun (k : Int) (m' : PM) => V d 35 (45, ([some (.inr (.inr p)), some (.inl n), some (.inl e), some (.inl (k))], ([], (m', (none, (dy, L)))))) Q) (E := fun (k : Int) (m' : PM) => m' = setA m (p + 1) (ivl (fun _ => 0) (ivl (fun x => m (p + 1) (x - e)) (m (p + 1)) (e + -1 + 1) (e + m p 1)) 0 (k))) (a := 0) (b := e) ?_ ?_ (0) (_) (by first | omega | (simp only [sA_same, sA_s, ud_s, Int.reduceEq, if_true, if_false, ite_true, ite_false, ↓reduceIte, and_true, true_and, eq_self, Int.add_zero, Int.reduceAdd]; omega) | (simp (disch := omega) only [sA_same, sA_ne, ud_eq, ud_ne, Int.add_zero, Int.reduceAdd]; omega)) (by first | omega | (simp only [sA_same, sA_s, ud_s, Int.reduceEq, if_true, if_false, ite_true, ite_false, ↓reduceIte, and_true, true_and, eq_self, Int.add_zero, Int.reduceAdd]; omega) | (simp (disch := omega) only [sA_same, sA_ne, ud_eq, ud_ne, Int.add_zero, Int.reduceAdd]; omega)) ?_
    · intro m' hm 
      show V d 35 (45, ([some (.inr (.inr p)), some (.inl n), some (.inl e), some (.inl (e))], ([], (m', (none, (dy, L)))))) Q
      subst hm
      refine v_iload_n (n := 46) xB_35 dX4_putBlank_45 rfl rfl ?_
      refine v_iload_n (n := 47) xB_35 dX4_putBlank_46 rfl rfl ?_
      refine v_ic_ge_y (t := 63) xB_35 dX4_putBlank_47 (by decide) rfl (by first | omega | (simp only [sA_same, sA_s, ud_s, Int.reduceEq, if_true, if_false, ite_true, ite_false, ↓reduceIte, and_true, true_and, eq_self, Int.add_zero, Int.reduceAdd]; omega) | (simp (disch := omega) only [sA_same, sA_ne, ud_eq, ud_ne, Int.add_zero, Int.reduceAdd]; omega)) ?_
      refine v_aload_n (n := 64) xB_35 dX4_putBlank_63 rfl rfl ?_
      refine v_dup (n := 65) xB_35 dX4_putBlank_64 rfl rfl ?_
      refine v_gf_i (n := 68) (kz := 1) xB_35 dX4_putBlank_65 xO_35 fl_4_21 fg_4_1 rfl (sh_P hp _ _ _) rfl rfl ?_
      refine v_iload_n (n := 69) xB_35 dX4_putBlank_68 rfl rfl ?_
      refine v_iadd (n := 70) xB_35 dX4_putBlank_69 (by first | omega | (simp only [sA_same, sA_s, ud_s, Int.reduceEq, if_true, if_false, ite_true, ite_false, ↓reduceIte, and_true, true_and, eq_self, Int.add_zero, Int.reduceAdd]; omega) | (simp (disch := omega) only [sA_same, sA_ne, ud_eq, ud_ne, Int.add_zero, Int.reduceAdd]; omega)) rfl ?_
      refine v_pf_i (n := 73) (kz := 1) xB_35 dX4_putBlank_70 xO_35 fl_4_21 fg_4_1 (Or.inl fn_4_1) (sh_P hp _ _ _) (by unfold pilA at hp; omega) rfl rfl ?_
      (try simp (disch := omega) only [sA_same, sA_ne, sA_sA, sA_sr, sB_s, ud_eq, ud_ne, ud_ud, ud_sr, uB_s, Int.add_zero, Int.reduceAdd])
      refine v_return xB_35 dX4_putBlank_73 xK_35 ?_
      (try simp (disch := omega) only [sA_same, sA_ne, sA_sA, sA_sr, sB_s, ud_eq, ud_ne, ud_ud, ud_sr, uB_s, Int.add_zero, Int.reduceAdd])
      refine o1 _ (okc_ivl (fun _ => ⟨by decide, by decide⟩) (okc_ivl (fun _ => hc _) hc _ _) _ _) (fun s h1 h2 => ?_)
      by_cases hs : s < e
      · rw [if_pos hs]; simp (disch := omega) only [ivl_in, ivl_lo, ivl_hi]
      · rw [if_neg hs]; simp (disch := omega) only [ivl_in, ivl_lo, ivl_hi]
    · intro k m' h1 h2 hm ih 
      show V d 35 (45, ([some (.inr (.inr p)), some (.inl n), some (.inl e), some (.inl (k))], ([], (m', (none, (dy, L)))))) Q
      subst hm
      refine v_iload_n (n := 46) xB_35 dX4_putBlank_45 rfl rfl ?_
      refine v_iload_n (n := 47) xB_35 dX4_putBlank_46 rfl rfl ?_
      refine v_ic_ge_n (n := 50) xB_35 dX4_putBlank_47 (by decide) rfl (by first | omega | (simp only [sA_same, sA_s, ud_s, Int.reduceEq, if_true, if_false, ite_true, ite_false, ↓reduceIte, and_true, true_and, eq_self, Int.add_zero, Int.reduceAdd]; omega) | (simp (disch := omega) only [sA_same, sA_ne, ud_eq, ud_ne, Int.add_zero, Int.reduceAdd]; omega)) ?_
      refine v_aload_n (n := 51) xB_35 dX4_putBlank_50 rfl rfl ?_
      refine v_gf_s (n := 54) (kz := 0) xB_35 dX4_putBlank_51 xO_35 fl_4_9 fg_4_0 (sh_P hp _ _ _) rfl (st_P hp) rfl ?_
      refine v_iload_n (n := 55) xB_35 dX4_putBlank_54 rfl rfl ?_
      refine v_iconst (n := 56) xB_35 dX4_putBlank_55 ⟨by decide, by decide⟩ rfl ?_
      refine v_iastore (n := 57) (lz := 12) xB_35 dX4_putBlank_56 (sh_PA hp _ _ _) (by unfold pilA at hp; omega) rfl (by first | omega | (simp only [sA_same, sA_s, ud_s, Int.reduceEq, if_true, if_false, ite_true, ite_false, ↓reduceIte, and_true, true_and, eq_self, Int.add_zero, Int.reduceAdd]; omega) | (simp (disch := omega) only [sA_same, sA_ne, ud_eq, ud_ne, Int.add_zero, Int.reduceAdd]; omega)) rfl ?_
      (try simp (disch := omega) only [sA_same, sA_ne, sA_sA, sA_sr, sB_s, ud_eq, ud_ne, ud_ud, ud_sr, uB_s, Int.add_zero, Int.reduceAdd])
      refine v_iinc3 (n := 60) xB_35 dX4_putBlank_57 rfl (by first | omega | (simp only [sA_same, sA_s, ud_s, Int.reduceEq, if_true, if_false, ite_true, ite_false, ↓reduceIte, and_true, true_and, eq_self, Int.add_zero, Int.reduceAdd]; omega) | (simp (disch := omega) only [sA_same, sA_ne, ud_eq, ud_ne, Int.add_zero, Int.reduceAdd]; omega)) rfl ?_
      refine v_goto (t := 45) xB_35 dX4_putBlank_60 (by decide) rfl ?_
      refine ih _ ?_
      (try simp (disch := omega) only [sA_same, sA_ne, sA_sA, sA_sr, sB_s, ud_eq, ud_ne, ud_ud, ud_sr, uB_s, Int.add_zero, Int.reduceAdd])
      congr 1
      exact (by funext j'; simp only [ud_s, ivl, mirC, sA_same, sA_s, Int.reduceEq, if_true, if_false, ↓reduceIte]; (repeat' split) <;> first | rfl | omega | (congr 1; omega) | (congr 2; omega))
    · rw [ivl_0 (lo := 0) (hi := 0) (by omega)]
  · intro k m' h1 h2 hm ih 
    show V d 35 (19, ([some (.inr (.inr p)), some (.inl n), some (.inl e), some (.inl (k))], ([], (m', (none, (dy, L)))))) Q
    subst hm
    refine v_iload_n (n := 20) xB_35 dX4_putBlank_19 rfl rfl ?_
    refine v_if_lt_n (n := 23) xB_35 dX4_putBlank_20 (by decide) rfl (by first | omega | (simp only [sA_same, sA_s, ud_s, Int.reduceEq, if_true, if_false, ite_true, ite_false, ↓reduceIte, and_true, true_and, eq_self, Int.add_zero, Int.reduceAdd]; omega) | (simp (disch := omega) only [sA_same, sA_ne, ud_eq, ud_ne, Int.add_zero, Int.reduceAdd]; omega)) ?_
    refine v_aload_n (n := 24) xB_35 dX4_putBlank_23 rfl rfl ?_
    refine v_gf_s (n := 27) (kz := 0) xB_35 dX4_putBlank_24 xO_35 fl_4_9 fg_4_0 (sh_P hp _ _ _) rfl (st_P hp) rfl ?_
    refine v_iload_n (n := 28) xB_35 dX4_putBlank_27 rfl rfl ?_
    refine v_iload_n (n := 29) xB_35 dX4_putBlank_28 rfl rfl ?_
    refine v_iadd (n := 30) xB_35 dX4_putBlank_29 (by first | omega | (simp only [sA_same, sA_s, ud_s, Int.reduceEq, if_true, if_false, ite_true, ite_false, ↓reduceIte, and_true, true_and, eq_self, Int.add_zero, Int.reduceAdd]; omega) | (simp (disch := omega) only [sA_same, sA_ne, ud_eq, ud_ne, Int.add_zero, Int.reduceAdd]; omega)) rfl ?_
    refine v_aload_n (n := 31) xB_35 dX4_putBlank_30 rfl rfl ?_
    refine v_gf_s (n := 34) (kz := 0) xB_35 dX4_putBlank_31 xO_35 fl_4_9 fg_4_0 (sh_P hp _ _ _) rfl (st_P hp) rfl ?_
    refine v_iload_n (n := 35) xB_35 dX4_putBlank_34 rfl rfl ?_
    refine v_iaload (n := 36) (lz := 12) xB_35 dX4_putBlank_35 (sh_PA hp _ _ _) rfl (by first | omega | (simp only [sA_same, sA_s, ud_s, Int.reduceEq, if_true, if_false, ite_true, ite_false, ↓reduceIte, and_true, true_and, eq_self, Int.add_zero, Int.reduceAdd]; omega) | (simp (disch := omega) only [sA_same, sA_ne, ud_eq, ud_ne, Int.add_zero, Int.reduceAdd]; omega)) rfl ?_
    refine v_iastore (n := 37) (lz := 12) xB_35 dX4_putBlank_36 (sh_PA hp _ _ _) (by unfold pilA at hp; omega) rfl (by first | omega | (simp only [sA_same, sA_s, ud_s, Int.reduceEq, if_true, if_false, ite_true, ite_false, ↓reduceIte, and_true, true_and, eq_self, Int.add_zero, Int.reduceAdd]; omega) | (simp (disch := omega) only [sA_same, sA_ne, ud_eq, ud_ne, Int.add_zero, Int.reduceAdd]; omega)) rfl ?_
    (try simp (disch := omega) only [sA_same, sA_ne, sA_sA, sA_sr, sB_s, ud_eq, ud_ne, ud_ud, ud_sr, uB_s, Int.add_zero, Int.reduceAdd])
    refine v_iinc3 (n := 40) xB_35 dX4_putBlank_37 rfl (by first | omega | (simp only [sA_same, sA_s, ud_s, Int.reduceEq, if_true, if_false, ite_true, ite_false, ↓reduceIte, and_true, true_and, eq_self, Int.add_zero, Int.reduceAdd]; omega) | (simp (disch := omega) only [sA_same, sA_ne, ud_eq, ud_ne, Int.add_zero, Int.reduceAdd]; omega)) rfl ?_
    refine v_goto (t := 19) xB_35 dX4_putBlank_40 (by decide) rfl ?_
    refine ih _ ?_
    (try simp (disch := omega) only [sA_same, sA_ne, sA_sA, sA_sr, sB_s, ud_eq, ud_ne, ud_ud, ud_sr, uB_s, Int.add_zero, Int.reduceAdd])
    congr 1
    exact (by funext j'; simp only [ud_s, ivl, mirC, sA_same, sA_s, Int.reduceEq, if_true, if_false, ↓reduceIte]; (repeat' split) <;> first | rfl | omega | (congr 1; omega) | (congr 2; omega))
  · rw [ivl_0 (by omega), sA_id]
set_option maxHeartbeats 1000000 in
theorem k_turnWhole {d : Nat} {p : Int} {m : PM} {dy : List (Nat × Nat)} {L : Nat} {Q : Option PV → PS → Prop} (hd : 2 ≤ d) (hp : pilA p) (hN : 0 ≤ m p 1 ∧ m p 1 ≤ 12) (hc : okc (m (p + 1))) (o1 : ∀ f : Int → Int, okc f → (∀ s, 0 ≤ s → s < m p 1 → f s = ovF (m (p + 1) (m p 1 - 1 - s))) → Q (none) (setA m (p + 1) f, (none, (dy, L)))) : C d 37 [.inr (.inr p)] (m, (none, (dy, L))) Q := by
  refine C_go (k := 1) hd xL_37 (fun d hd => ?_)
  show V d 37 (0, ([some (.inr (.inr p)), none, none, none], ([], (m, (none, (dy, L)))))) Q
  have hpd : p = 2 ∨ p = 28 ∨ p = 62 ∨ p = 64 := hp
  refine v_iconst (n := 1) xB_37 dX4_turnWhole_0 ⟨by decide, by decide⟩ rfl ?_
  refine v_istore_n1 (n := 2) xB_37 dX4_turnWhole_1 rfl rfl ?_
  refine v_aload_n (n := 3) xB_37 dX4_turnWhole_2 rfl rfl ?_
  refine v_gf_i (n := 6) (kz := 1) xB_37 dX4_turnWhole_3 xO_37 fl_4_21 fg_4_1 rfl (sh_P hp _ _ _) rfl rfl ?_
  refine v_iconst (n := 7) xB_37 dX4_turnWhole_6 ⟨by decide, by decide⟩ rfl ?_
  refine v_isub (n := 8) xB_37 dX4_turnWhole_7 (by first | omega | (simp only [sA_same, sA_s, ud_s, Int.reduceEq, if_true, if_false, ite_true, ite_false, ↓reduceIte, and_true, true_and, eq_self, Int.add_zero, Int.reduceAdd]; omega) | (simp (disch := omega) only [sA_same, sA_ne, ud_eq, ud_ne, Int.add_zero, Int.reduceAdd]; omega)) rfl ?_
  refine v_istore_n2 (n := 9) xB_37 dX4_turnWhole_8 rfl rfl ?_
  refine lp_up (F := fun (k : Int) (m' : PM) => ∀ x3 : Option PV, ∀ z : Int, z = m p 1 - 1 - k → V d 37 (9, ([some (.inr (.inr p)), some (.inl (k)), some (.inl z), x3], ([], (m', (none, (dy, L)))))) Q) (E := fun (k : Int) (m' : PM) => m' = setA m (p + 1) (mirC (m (p + 1)) (m p 1) (k))) (a := 0) (b := (m p 1 + 1) / 2) ?_ ?_ (0) (_) (by first | omega | (simp only [sA_same, sA_s, ud_s, Int.reduceEq, if_true, if_false, ite_true, ite_false, ↓reduceIte, and_true, true_and, eq_self, Int.add_zero, Int.reduceAdd]; omega) | (simp (disch := omega) only [sA_same, sA_ne, ud_eq, ud_ne, Int.add_zero, Int.reduceAdd]; omega)) (by first | omega | (simp only [sA_same, sA_s, ud_s, Int.reduceEq, if_true, if_false, ite_true, ite_false, ↓reduceIte, and_true, true_and, eq_self, Int.add_zero, Int.reduceAdd]; omega) | (simp (disch := omega) only [sA_same, sA_ne, ud_eq, ud_ne, Int.add_zero, Int.reduceAdd]; omega)) ?_ _ _ (by omega)
  · intro m' hm x3 z hz
    show V d 37 (9, ([some (.inr (.inr p)), some (.inl ((m p 1 + 1) / 2)), some (.inl z), x3], ([], (m', (none, (dy, L)))))) Q
    subst hm
    refine v_iload_n (n := 10) xB_37 dX4_turnWhole_9 rfl rfl ?_
    refine v_iload_n (n := 11) xB_37 dX4_turnWhole_10 rfl rfl ?_
    refine v_ic_gt_y (t := 55) xB_37 dX4_turnWhole_11 (by decide) rfl (by first | omega | (simp only [sA_same, sA_s, ud_s, Int.reduceEq, if_true, if_false, ite_true, ite_false, ↓reduceIte, and_true, true_and, eq_self, Int.add_zero, Int.reduceAdd]; omega) | (simp (disch := omega) only [sA_same, sA_ne, ud_eq, ud_ne, Int.add_zero, Int.reduceAdd]; omega)) ?_
    refine v_return xB_37 dX4_turnWhole_55 xK_37 ?_
    refine o1 _ (okc_mirC hc _ _) (fun s h1 h2 => ?_)
    unfold mirC
    rw [if_pos (by omega)]
  · intro k m' h1 h2 hm ih x3 z hz
    show V d 37 (9, ([some (.inr (.inr p)), some (.inl (k)), some (.inl z), x3], ([], (m', (none, (dy, L)))))) Q
    subst hm
    refine v_iload_n (n := 10) xB_37 dX4_turnWhole_9 rfl rfl ?_
    refine v_iload_n (n := 11) xB_37 dX4_turnWhole_10 rfl rfl ?_
    refine v_ic_gt_n (n := 14) xB_37 dX4_turnWhole_11 (by decide) rfl (by first | omega | (simp only [sA_same, sA_s, ud_s, Int.reduceEq, if_true, if_false, ite_true, ite_false, ↓reduceIte, and_true, true_and, eq_self, Int.add_zero, Int.reduceAdd]; omega) | (simp (disch := omega) only [sA_same, sA_ne, ud_eq, ud_ne, Int.add_zero, Int.reduceAdd]; omega)) ?_
    refine v_aload_n (n := 15) xB_37 dX4_turnWhole_14 rfl rfl ?_
    refine v_gf_s (n := 18) (kz := 0) xB_37 dX4_turnWhole_15 xO_37 fl_4_9 fg_4_0 (sh_P hp _ _ _) rfl (st_P hp) rfl ?_
    refine v_iload_n (n := 19) xB_37 dX4_turnWhole_18 rfl rfl ?_
    refine v_iaload (n := 20) (lz := 12) xB_37 dX4_turnWhole_19 (sh_PA hp _ _ _) rfl (by first | omega | (simp only [sA_same, sA_s, ud_s, Int.reduceEq, if_true, if_false, ite_true, ite_false, ↓reduceIte, and_true, true_and, eq_self, Int.add_zero, Int.reduceAdd]; omega) | (simp (disch := omega) only [sA_same, sA_ne, ud_eq, ud_ne, Int.add_zero, Int.reduceAdd]; omega)) rfl ?_
    refine v_call_s (n := 23) xB_37 dX4_turnWhole_20 xO_37 sp_4_52 (Or.inl rfl) iv_4_52 rfl rfl rfl rfl ?_
    refine k_over (by omega) (by simp (disch := omega) only [sA_same, sA_ne]; first | exact okc_mirC hc _ _ _ | exact hc _) ?_
    refine v_istore_n3 (n := 24) xB_37 dX4_turnWhole_23 rfl rfl ?_
    refine v_aload_n (n := 25) xB_37 dX4_turnWhole_24 rfl rfl ?_
    refine v_gf_s (n := 28) (kz := 0) xB_37 dX4_turnWhole_25 xO_37 fl_4_9 fg_4_0 (sh_P hp _ _ _) rfl (st_P hp) rfl ?_
    refine v_iload_n (n := 29) xB_37 dX4_turnWhole_28 rfl rfl ?_
    refine v_aload_n (n := 30) xB_37 dX4_turnWhole_29 rfl rfl ?_
    refine v_gf_s (n := 33) (kz := 0) xB_37 dX4_turnWhole_30 xO_37 fl_4_9 fg_4_0 (sh_P hp _ _ _) rfl (st_P hp) rfl ?_
    refine v_iload_n (n := 34) xB_37 dX4_turnWhole_33 rfl rfl ?_
    refine v_iaload (n := 35) (lz := 12) xB_37 dX4_turnWhole_34 (sh_PA hp _ _ _) rfl (by first | omega | (simp only [sA_same, sA_s, ud_s, Int.reduceEq, if_true, if_false, ite_true, ite_false, ↓reduceIte, and_true, true_and, eq_self, Int.add_zero, Int.reduceAdd]; omega) | (simp (disch := omega) only [sA_same, sA_ne, ud_eq, ud_ne, Int.add_zero, Int.reduceAdd]; omega)) rfl ?_
    refine v_call_s (n := 38) xB_37 dX4_turnWhole_35 xO_37 sp_4_52 (Or.inl rfl) iv_4_52 rfl rfl rfl rfl ?_
    refine k_over (by omega) (by simp (disch := omega) only [sA_same, sA_ne]; first | exact okc_mirC hc _ _ _ | exact hc _) ?_
    refine v_iastore (n := 39) (lz := 12) xB_37 dX4_turnWhole_38 (sh_PA hp _ _ _) (by unfold pilA at hp; omega) rfl (by first | omega | (simp only [sA_same, sA_s, ud_s, Int.reduceEq, if_true, if_false, ite_true, ite_false, ↓reduceIte, and_true, true_and, eq_self, Int.add_zero, Int.reduceAdd]; omega) | (simp (disch := omega) only [sA_same, sA_ne, ud_eq, ud_ne, Int.add_zero, Int.reduceAdd]; omega)) rfl ?_
    (try simp (disch := omega) only [sA_same, sA_ne, sA_sA, sA_sr, sB_s, ud_eq, ud_ne, ud_ud, ud_sr, uB_s, Int.add_zero, Int.reduceAdd])
    refine v_aload_n (n := 40) xB_37 dX4_turnWhole_39 rfl rfl ?_
    refine v_gf_s (n := 43) (kz := 0) xB_37 dX4_turnWhole_40 xO_37 fl_4_9 fg_4_0 (sh_P hp _ _ _) rfl (st_P hp) rfl ?_
    refine v_iload_n (n := 44) xB_37 dX4_turnWhole_43 rfl rfl ?_
    refine v_iload_n (n := 45) xB_37 dX4_turnWhole_44 rfl rfl ?_
    refine v_iastore (n := 46) (lz := 12) xB_37 dX4_turnWhole_45 (sh_PA hp _ _ _) (by unfold pilA at hp; omega) rfl (by first | omega | (simp only [sA_same, sA_s, ud_s, Int.reduceEq, if_true, if_false, ite_true, ite_false, ↓reduceIte, and_true, true_and, eq_self, Int.add_zero, Int.reduceAdd]; omega) | (simp (disch := omega) only [sA_same, sA_ne, ud_eq, ud_ne, Int.add_zero, Int.reduceAdd]; omega)) rfl ?_
    (try simp (disch := omega) only [sA_same, sA_ne, sA_sA, sA_sr, sB_s, ud_eq, ud_ne, ud_ud, ud_sr, uB_s, Int.add_zero, Int.reduceAdd])
    refine v_iinc1 (n := 49) xB_37 dX4_turnWhole_46 rfl (by first | omega | (simp only [sA_same, sA_s, ud_s, Int.reduceEq, if_true, if_false, ite_true, ite_false, ↓reduceIte, and_true, true_and, eq_self, Int.add_zero, Int.reduceAdd]; omega) | (simp (disch := omega) only [sA_same, sA_ne, ud_eq, ud_ne, Int.add_zero, Int.reduceAdd]; omega)) rfl ?_
    refine v_iinc2 (n := 52) xB_37 dX4_turnWhole_49 rfl (by first | omega | (simp only [sA_same, sA_s, ud_s, Int.reduceEq, if_true, if_false, ite_true, ite_false, ↓reduceIte, and_true, true_and, eq_self, Int.add_zero, Int.reduceAdd]; omega) | (simp (disch := omega) only [sA_same, sA_ne, ud_eq, ud_ne, Int.add_zero, Int.reduceAdd]; omega)) rfl ?_
    refine v_goto (t := 9) xB_37 dX4_turnWhole_52 (by decide) rfl ?_
    refine ih _ ?_ _ _ (by omega)
    (try simp (disch := omega) only [sA_same, sA_ne, sA_sA, sA_sr, sB_s, ud_eq, ud_ne, ud_ud, ud_sr, uB_s, Int.add_zero, Int.reduceAdd])
    subst hz
    congr 1
    exact (by funext j'; simp only [ud_s, ivl, mirC, sA_same, sA_s, Int.reduceEq, if_true, if_false, ↓reduceIte]; (repeat' split) <;> first | rfl | omega | (congr 1; omega) | (congr 2; omega))
  · rw [mirC_0, sA_id]
set_option maxHeartbeats 1000000 in
theorem vk_abouts {d : Nat} {p w : Int} {m : PM} {dy : List (Nat × Nat)} {L : Nat} {Q : Option PV → PS → Prop} (hd : 1 ≤ d) (hp : pilA p) (hN : 0 ≤ m p 1 ∧ m p 1 ≤ 12) (hc : okc (m (p + 1))) (o1 : ∀ f : Int → Int, okc f → (∀ s, 0 ≤ s → s < m p 1 → f s = abt (m (p + 1) s)) → Q none (setA m (p + 1) f, (none, (dy, L)))) : V d 36 (16, ([some (.inr (.inr p)), some (.inl w), none], ([], (m, (none, (dy, L)))))) Q := by
  have hpd : p = 2 ∨ p = 28 ∨ p = 62 ∨ p = 64 := hp
  have hab : okc (fun j => abt (m (p + 1) j)) := fun j => abt_ok (hc j)
  refine v_iconst (n := 17) xB_36 dX4_doWay_16 ⟨by decide, by decide⟩ rfl ?_
  refine v_istore_n2 (n := 18) xB_36 dX4_doWay_17 rfl rfl ?_
  refine lp_up (F := fun (k : Int) (m' : PM) => V d 36 (18, ([some (.inr (.inr p)), some (.inl w), some (.inl (k))], ([], (m', (none, (dy, L)))))) Q) (E := fun (k : Int) (m' : PM) => m' = setA m (p + 1) (ivl (fun j => abt (m (p + 1) j)) (m (p + 1)) 0 (k))) (a := 0) (b := m p 1) ?_ ?_ (0) (_) (by first | omega | (simp only [sA_same, sA_s, ud_s, Int.reduceEq, if_true, if_false, ite_true, ite_false, ↓reduceIte, and_true, true_and, eq_self, Int.add_zero, Int.reduceAdd]; omega) | (simp (disch := omega) only [sA_same, sA_ne, ud_eq, ud_ne, Int.add_zero, Int.reduceAdd]; omega)) (by first | omega | (simp only [sA_same, sA_s, ud_s, Int.reduceEq, if_true, if_false, ite_true, ite_false, ↓reduceIte, and_true, true_and, eq_self, Int.add_zero, Int.reduceAdd]; omega) | (simp (disch := omega) only [sA_same, sA_ne, ud_eq, ud_ne, Int.add_zero, Int.reduceAdd]; omega)) ?_
  · intro m' hm 
    show V d 36 (18, ([some (.inr (.inr p)), some (.inl w), some (.inl (m p 1))], ([], (m', (none, (dy, L)))))) Q
    subst hm
    refine v_iload_n (n := 19) xB_36 dX4_doWay_18 rfl rfl ?_
    refine v_aload_n (n := 20) xB_36 dX4_doWay_19 rfl rfl ?_
    refine v_gf_i (n := 23) (kz := 1) xB_36 dX4_doWay_20 xO_36 fl_4_21 fg_4_1 rfl (sh_P hp _ _ _) rfl rfl ?_
    refine v_ic_ge_y (t := 47) xB_36 dX4_doWay_23 (by decide) rfl (by first | omega | (simp only [sA_same, sA_s, ud_s, Int.reduceEq, if_true, if_false, ite_true, ite_false, ↓reduceIte, and_true, true_and, eq_self, Int.add_zero, Int.reduceAdd]; omega) | (simp (disch := omega) only [sA_same, sA_ne, ud_eq, ud_ne, Int.add_zero, Int.reduceAdd]; omega)) ?_
    refine v_return xB_36 dX4_doWay_47 xK_36 ?_
    refine o1 _ (okc_ivl hab hc _ _) (fun s h1 h2 => ?_)
    simp (disch := omega) only [ivl_in]
  · intro k m' h1 h2 hm ih 
    show V d 36 (18, ([some (.inr (.inr p)), some (.inl w), some (.inl (k))], ([], (m', (none, (dy, L)))))) Q
    subst hm
    refine v_iload_n (n := 19) xB_36 dX4_doWay_18 rfl rfl ?_
    refine v_aload_n (n := 20) xB_36 dX4_doWay_19 rfl rfl ?_
    refine v_gf_i (n := 23) (kz := 1) xB_36 dX4_doWay_20 xO_36 fl_4_21 fg_4_1 rfl (sh_P hp _ _ _) rfl rfl ?_
    refine v_ic_ge_n (n := 26) xB_36 dX4_doWay_23 (by decide) rfl (by first | omega | (simp only [sA_same, sA_s, ud_s, Int.reduceEq, if_true, if_false, ite_true, ite_false, ↓reduceIte, and_true, true_and, eq_self, Int.add_zero, Int.reduceAdd]; omega) | (simp (disch := omega) only [sA_same, sA_ne, ud_eq, ud_ne, Int.add_zero, Int.reduceAdd]; omega)) ?_
    refine v_aload_n (n := 27) xB_36 dX4_doWay_26 rfl rfl ?_
    refine v_gf_s (n := 30) (kz := 0) xB_36 dX4_doWay_27 xO_36 fl_4_9 fg_4_0 (sh_P hp _ _ _) rfl (st_P hp) rfl ?_
    refine v_iload_n (n := 31) xB_36 dX4_doWay_30 rfl rfl ?_
    refine v_aload_n (n := 32) xB_36 dX4_doWay_31 rfl rfl ?_
    refine v_gf_s (n := 35) (kz := 0) xB_36 dX4_doWay_32 xO_36 fl_4_9 fg_4_0 (sh_P hp _ _ _) rfl (st_P hp) rfl ?_
    refine v_iload_n (n := 36) xB_36 dX4_doWay_35 rfl rfl ?_
    refine v_iaload (n := 37) (lz := 12) xB_36 dX4_doWay_36 (sh_PA hp _ _ _) rfl (by first | omega | (simp only [sA_same, sA_s, ud_s, Int.reduceEq, if_true, if_false, ite_true, ite_false, ↓reduceIte, and_true, true_and, eq_self, Int.add_zero, Int.reduceAdd]; omega) | (simp (disch := omega) only [sA_same, sA_ne, ud_eq, ud_ne, Int.add_zero, Int.reduceAdd]; omega)) rfl ?_
    refine v_call_s (n := 40) xB_36 dX4_doWay_37 xO_36 sp_4_49 (Or.inl rfl) iv_4_49 rfl rfl rfl rfl ?_
    refine k_about (by omega) (by simp (disch := omega) only [sA_same, sA_ne]; exact okc_ivl hab hc _ _ _) ?_
    refine v_iastore (n := 41) (lz := 12) xB_36 dX4_doWay_40 (sh_PA hp _ _ _) (by unfold pilA at hp; omega) rfl (by first | omega | (simp only [sA_same, sA_s, ud_s, Int.reduceEq, if_true, if_false, ite_true, ite_false, ↓reduceIte, and_true, true_and, eq_self, Int.add_zero, Int.reduceAdd]; omega) | (simp (disch := omega) only [sA_same, sA_ne, ud_eq, ud_ne, Int.add_zero, Int.reduceAdd]; omega)) rfl ?_
    (try simp (disch := omega) only [sA_same, sA_ne, sA_sA, sA_sr, sB_s, ud_eq, ud_ne, ud_ud, ud_sr, uB_s, Int.add_zero, Int.reduceAdd])
    refine v_iinc2 (n := 44) xB_36 dX4_doWay_41 rfl (by first | omega | (simp only [sA_same, sA_s, ud_s, Int.reduceEq, if_true, if_false, ite_true, ite_false, ↓reduceIte, and_true, true_and, eq_self, Int.add_zero, Int.reduceAdd]; omega) | (simp (disch := omega) only [sA_same, sA_ne, ud_eq, ud_ne, Int.add_zero, Int.reduceAdd]; omega)) rfl ?_
    refine v_goto (t := 18) xB_36 dX4_doWay_44 (by decide) rfl ?_
    refine ih _ ?_
    (try simp (disch := omega) only [sA_same, sA_ne, sA_sA, sA_sr, sB_s, ud_eq, ud_ne, ud_ud, ud_sr, uB_s, Int.add_zero, Int.reduceAdd])
    congr 1
    exact (by funext j'; simp only [ud_s, ivl]; (repeat' split) <;> first | rfl | omega | (exfalso; omega) | (congr 2; omega))
  · rw [ivl_0 (by omega), sA_id]
set_option maxHeartbeats 1000000 in
theorem k_doWay {d : Nat} {p w : Int} {m : PM} {dy : List (Nat × Nat)} {L : Nat} {Q : Option PV → PS → Prop} (hd : 3 ≤ d) (hp : pilA p) (hN : 0 ≤ m p 1 ∧ m p 1 ≤ 12) (hw : 0 ≤ w ∧ w ≤ 3) (hc : okc (m (p + 1))) (o1 : ∀ f : Int → Int, okc f → (∀ s, 0 ≤ s → s < m p 1 → f s = wyF w (m p 1) (m (p + 1)) s) → Q none (setA m (p + 1) f, (none, (dy, L)))) : C d 36 [.inr (.inr p), .inl w] (m, (none, (dy, L))) Q := by
  refine C_go (k := 2) hd xL_36 (fun d hd => ?_)
  show V d 36 (0, ([some (.inr (.inr p)), some (.inl w), none], ([], (m, (none, (dy, L)))))) Q
  have hpd : p = 2 ∨ p = 28 ∨ p = 62 ∨ p = 64 := hp
  rcases (by omega : w = 0 ∨ w = 1 ∨ w = 2 ∨ w = 3) with hw | hw | hw | hw
  · subst hw
    refine v_iload_n (n := 1) xB_36 dX4_doWay_0 rfl rfl ?_
    refine v_iconst (n := 2) xB_36 dX4_doWay_1 ⟨by decide, by decide⟩ rfl ?_
    refine v_iand_e (n := 3) xB_36 dX4_doWay_2 (z := 0) (by decide +kernel) rfl ?_
    refine v_if_eq_y (t := 10) xB_36 dX4_doWay_3 (by decide) rfl (by first | omega | (simp only [sA_same, sA_s, ud_s, Int.reduceEq, if_true, if_false, ite_true, ite_false, ↓reduceIte, and_true, true_and, eq_self, Int.add_zero, Int.reduceAdd]; omega) | (simp (disch := omega) only [sA_same, sA_ne, ud_eq, ud_ne, Int.add_zero, Int.reduceAdd]; omega)) ?_
    refine v_iload_n (n := 11) xB_36 dX4_doWay_10 rfl rfl ?_
    refine v_iconst (n := 12) xB_36 dX4_doWay_11 ⟨by decide, by decide⟩ rfl ?_
    refine v_iand_e (n := 13) xB_36 dX4_doWay_12 (z := 0) (by decide +kernel) rfl ?_
    refine v_if_eq_y (t := 47) xB_36 dX4_doWay_13 (by decide) rfl (by first | omega | (simp only [sA_same, sA_s, ud_s, Int.reduceEq, if_true, if_false, ite_true, ite_false, ↓reduceIte, and_true, true_and, eq_self, Int.add_zero, Int.reduceAdd]; omega) | (simp (disch := omega) only [sA_same, sA_ne, ud_eq, ud_ne, Int.add_zero, Int.reduceAdd]; omega)) ?_
    refine v_return xB_36 dX4_doWay_47 xK_36 ?_
    have q := o1 (m (p + 1)) hc (fun s h1 h2 => by unfold wyF; rw [if_neg (by omega), if_neg (by omega)])
    rw [sA_id] at q
    exact q
  · subst hw
    refine v_iload_n (n := 1) xB_36 dX4_doWay_0 rfl rfl ?_
    refine v_iconst (n := 2) xB_36 dX4_doWay_1 ⟨by decide, by decide⟩ rfl ?_
    refine v_iand_e (n := 3) xB_36 dX4_doWay_2 (z := 1) (by decide +kernel) rfl ?_
    refine v_if_eq_n (n := 6) xB_36 dX4_doWay_3 (by decide) rfl (by first | omega | (simp only [sA_same, sA_s, ud_s, Int.reduceEq, if_true, if_false, ite_true, ite_false, ↓reduceIte, and_true, true_and, eq_self, Int.add_zero, Int.reduceAdd]; omega) | (simp (disch := omega) only [sA_same, sA_ne, ud_eq, ud_ne, Int.add_zero, Int.reduceAdd]; omega)) ?_
    refine v_aload_n (n := 7) xB_36 dX4_doWay_6 rfl rfl ?_
    refine v_call_v (n := 10) xB_36 dX4_doWay_7 xO_36 iv_4_46 rfl (sh_P hp _ _ _) rfl rfl rfl ?_
    refine k_turnWhole (by omega) hp (by first | omega | (simp only [sA_same, sA_s, ud_s, Int.reduceEq, if_true, if_false, ite_true, ite_false, ↓reduceIte, and_true, true_and, eq_self, Int.add_zero, Int.reduceAdd]; omega) | (simp (disch := omega) only [sA_same, sA_ne, ud_eq, ud_ne, Int.add_zero, Int.reduceAdd]; omega)) hc (fun ft hft hftv => ?_)
    (try simp (disch := omega) only [sA_same, sA_ne, sA_sA, sA_sr, sB_s, ud_eq, ud_ne, ud_ud, ud_sr, uB_s, Int.add_zero, Int.reduceAdd])
    refine v_iload_n (n := 11) xB_36 dX4_doWay_10 rfl rfl ?_
    refine v_iconst (n := 12) xB_36 dX4_doWay_11 ⟨by decide, by decide⟩ rfl ?_
    refine v_iand_e (n := 13) xB_36 dX4_doWay_12 (z := 0) (by decide +kernel) rfl ?_
    refine v_if_eq_y (t := 47) xB_36 dX4_doWay_13 (by decide) rfl (by first | omega | (simp only [sA_same, sA_s, ud_s, Int.reduceEq, if_true, if_false, ite_true, ite_false, ↓reduceIte, and_true, true_and, eq_self, Int.add_zero, Int.reduceAdd]; omega) | (simp (disch := omega) only [sA_same, sA_ne, ud_eq, ud_ne, Int.add_zero, Int.reduceAdd]; omega)) ?_
    refine v_return xB_36 dX4_doWay_47 xK_36 ?_
    refine o1 ft hft (fun s h1 h2 => ?_)
    rw [hftv s h1 h2]
    unfold wyF
    rw [if_neg (by omega), if_pos (by omega)]
  · subst hw
    refine v_iload_n (n := 1) xB_36 dX4_doWay_0 rfl rfl ?_
    refine v_iconst (n := 2) xB_36 dX4_doWay_1 ⟨by decide, by decide⟩ rfl ?_
    refine v_iand_e (n := 3) xB_36 dX4_doWay_2 (z := 0) (by decide +kernel) rfl ?_
    refine v_if_eq_y (t := 10) xB_36 dX4_doWay_3 (by decide) rfl (by first | omega | (simp only [sA_same, sA_s, ud_s, Int.reduceEq, if_true, if_false, ite_true, ite_false, ↓reduceIte, and_true, true_and, eq_self, Int.add_zero, Int.reduceAdd]; omega) | (simp (disch := omega) only [sA_same, sA_ne, ud_eq, ud_ne, Int.add_zero, Int.reduceAdd]; omega)) ?_
    refine v_iload_n (n := 11) xB_36 dX4_doWay_10 rfl rfl ?_
    refine v_iconst (n := 12) xB_36 dX4_doWay_11 ⟨by decide, by decide⟩ rfl ?_
    refine v_iand_e (n := 13) xB_36 dX4_doWay_12 (z := 2) (by decide +kernel) rfl ?_
    refine v_if_eq_n (n := 16) xB_36 dX4_doWay_13 (by decide) rfl (by first | omega | (simp only [sA_same, sA_s, ud_s, Int.reduceEq, if_true, if_false, ite_true, ite_false, ↓reduceIte, and_true, true_and, eq_self, Int.add_zero, Int.reduceAdd]; omega) | (simp (disch := omega) only [sA_same, sA_ne, ud_eq, ud_ne, Int.add_zero, Int.reduceAdd]; omega)) ?_
    refine vk_abouts (by omega) hp hN hc (fun f h1 h2 => o1 f h1 (fun s h3 h4 => ?_))
    rw [h2 s h3 h4]
    unfold wyF
    rw [if_pos (by omega), if_neg (by omega)]
  · subst hw
    refine v_iload_n (n := 1) xB_36 dX4_doWay_0 rfl rfl ?_
    refine v_iconst (n := 2) xB_36 dX4_doWay_1 ⟨by decide, by decide⟩ rfl ?_
    refine v_iand_e (n := 3) xB_36 dX4_doWay_2 (z := 1) (by decide +kernel) rfl ?_
    refine v_if_eq_n (n := 6) xB_36 dX4_doWay_3 (by decide) rfl (by first | omega | (simp only [sA_same, sA_s, ud_s, Int.reduceEq, if_true, if_false, ite_true, ite_false, ↓reduceIte, and_true, true_and, eq_self, Int.add_zero, Int.reduceAdd]; omega) | (simp (disch := omega) only [sA_same, sA_ne, ud_eq, ud_ne, Int.add_zero, Int.reduceAdd]; omega)) ?_
    refine v_aload_n (n := 7) xB_36 dX4_doWay_6 rfl rfl ?_
    refine v_call_v (n := 10) xB_36 dX4_doWay_7 xO_36 iv_4_46 rfl (sh_P hp _ _ _) rfl rfl rfl ?_
    refine k_turnWhole (by omega) hp (by first | omega | (simp only [sA_same, sA_s, ud_s, Int.reduceEq, if_true, if_false, ite_true, ite_false, ↓reduceIte, and_true, true_and, eq_self, Int.add_zero, Int.reduceAdd]; omega) | (simp (disch := omega) only [sA_same, sA_ne, ud_eq, ud_ne, Int.add_zero, Int.reduceAdd]; omega)) hc (fun ft hft hftv => ?_)
    (try simp (disch := omega) only [sA_same, sA_ne, sA_sA, sA_sr, sB_s, ud_eq, ud_ne, ud_ud, ud_sr, uB_s, Int.add_zero, Int.reduceAdd])
    refine v_iload_n (n := 11) xB_36 dX4_doWay_10 rfl rfl ?_
    refine v_iconst (n := 12) xB_36 dX4_doWay_11 ⟨by decide, by decide⟩ rfl ?_
    refine v_iand_e (n := 13) xB_36 dX4_doWay_12 (z := 2) (by decide +kernel) rfl ?_
    refine v_if_eq_n (n := 16) xB_36 dX4_doWay_13 (by decide) rfl (by first | omega | (simp only [sA_same, sA_s, ud_s, Int.reduceEq, if_true, if_false, ite_true, ite_false, ↓reduceIte, and_true, true_and, eq_self, Int.add_zero, Int.reduceAdd]; omega) | (simp (disch := omega) only [sA_same, sA_ne, ud_eq, ud_ne, Int.add_zero, Int.reduceAdd]; omega)) ?_
    refine vk_abouts (by omega) hp (by simp (disch := omega) only [sA_ne]; exact hN) (by simp (disch := omega) only [sA_same]; exact hft) (fun f h1 h2 => ?_)
    simp (disch := omega) only [sA_same, sA_ne, sA_sA, sA_sr, sB_s, ud_eq, ud_ne, ud_ud, ud_sr, uB_s, Int.add_zero, Int.reduceAdd] at h2 ⊢
    refine o1 f h1 (fun s h3 h4 => ?_)
    rw [h2 s h3 h4, hftv s h3 h4]
    unfold wyF
    rw [if_pos (by omega), if_pos (by omega)]
def r3F (N : Int) (c a b v : Int → Int) (n : Int) : Int := fs (fun i => decide (¬ ponF N (a i) (b i) c = v i)) (fun i => i) n.toNat 0
set_option maxHeartbeats 1000000 in
theorem k_firstOtherwise {d : Nat} {p q : Int} {m : PM} {dy : List (Nat × Nat)} {L : Nat} {Q : Option PV → PS → Prop} (hd : 3 ≤ d) (hp : pilA p) (hq : notA q) (hN : 0 ≤ m p 1 ∧ m p 1 ≤ 12) (hc : okc (m (p + 1))) (hq3 : 0 ≤ m q 3 ∧ m q 3 ≤ (notN q : Int)) (h1k : ∀ k, 0 ≤ k → k < m q 3 → m (q + 2) k = 0 ∨ m (q + 2) k = 1) (o1 : Q (some (.inl (r3F (m p 1) (m (p + 1)) (m (q + 1)) (m (q + 2)) (m (q + 3)) (m q 3)))) (m, (none, (dy, L)))) : C d 38 [.inr (.inr p), .inr (.inr q)] (m, (none, (dy, L))) Q := by
  refine C_go (k := 2) hd xL_38 (fun d hd => ?_)
  show V d 38 (0, ([some (.inr (.inr p)), some (.inr (.inr q)), none], ([], (m, (none, (dy, L)))))) Q
  have hpd : p = 2 ∨ p = 28 ∨ p = 62 ∨ p = 64 := hp
  refine v_iconst (n := 1) xB_38 dX4_firstOtherwise_0 ⟨by decide, by decide⟩ rfl ?_
  refine v_istore_n2 (n := 2) xB_38 dX4_firstOtherwise_1 rfl rfl ?_
  refine lp_up (F := fun (k : Int) (m' : PM) => V d 38 (2, ([some (.inr (.inr p)), some (.inr (.inr q)), some (.inl (k))], ([], (m', (none, (dy, L)))))) Q) (E := fun (k : Int) (m' : PM) => m = m' ∧ fs (fun i => decide (¬ ponF (m p 1) (m (q + 1) i) (m (q + 2) i) (m (p + 1)) = m (q + 3) i)) (fun i => i) (m q 3 - (k)).toNat (k) = r3F (m p 1) (m (p + 1)) (m (q + 1)) (m (q + 2)) (m (q + 3)) (m q 3)) (a := 0) (b := m q 3) ?_ ?_ (0) (m) (by first | omega | (simp only [sA_same, sA_s, ud_s, Int.reduceEq, if_true, if_false, ite_true, ite_false, ↓reduceIte, and_true, true_and, eq_self, Int.add_zero, Int.reduceAdd]; omega) | (simp (disch := omega) only [sA_same, sA_ne, ud_eq, ud_ne, Int.add_zero, Int.reduceAdd]; omega)) (by first | omega | (simp only [sA_same, sA_s, ud_s, Int.reduceEq, if_true, if_false, ite_true, ite_false, ↓reduceIte, and_true, true_and, eq_self, Int.add_zero, Int.reduceAdd]; omega) | (simp (disch := omega) only [sA_same, sA_ne, ud_eq, ud_ne, Int.add_zero, Int.reduceAdd]; omega)) ?_
  · intro m' hm 
    show V d 38 (2, ([some (.inr (.inr p)), some (.inr (.inr q)), some (.inl (m q 3))], ([], (m', (none, (dy, L)))))) Q
    obtain ⟨rfl, hw⟩ := hm
    rw [fs_end (by omega)] at hw
    refine v_iload_n (n := 3) xB_38 dX4_firstOtherwise_2 rfl rfl ?_
    refine v_aload_n (n := 4) xB_38 dX4_firstOtherwise_3 rfl rfl ?_
    refine v_gf_i (n := 7) (kz := 3) xB_38 dX4_firstOtherwise_4 xO_38 fl_4_55 fg_3_3 rfl (sh_N hq _ _ _) rfl rfl ?_
    refine v_ic_ge_y (t := 43) xB_38 dX4_firstOtherwise_7 (by decide) rfl (by first | omega | (simp only [sA_same, sA_s, ud_s, Int.reduceEq, if_true, if_false, ite_true, ite_false, ↓reduceIte, and_true, true_and, eq_self, Int.add_zero, Int.reduceAdd]; omega) | (simp (disch := omega) only [sA_same, sA_ne, ud_eq, ud_ne, Int.add_zero, Int.reduceAdd]; omega)) ?_
    refine v_bipush (n := 45) xB_38 dX4_firstOtherwise_43 ⟨by decide, by decide⟩ rfl ?_
    refine v_ireturn0 xB_38 dX4_firstOtherwise_45 xK_38 ?_
    rw [← hw] at o1
    first | exact o1 | (rw [fs_at (by omega) (by omega) (decide_eq_true (by assumption))] at o1; exact o1)
  · intro k m' h1 h2 hm ih 
    show V d 38 (2, ([some (.inr (.inr p)), some (.inr (.inr q)), some (.inl (k))], ([], (m', (none, (dy, L)))))) Q
    obtain ⟨rfl, hw⟩ := hm
    have hlen : m q 3 ≤ (notN q : Int) := hq3.2
    have hnn : notN q ≤ 8 := by unfold notN; (repeat' split) <;> omega
    refine v_iload_n (n := 3) xB_38 dX4_firstOtherwise_2 rfl rfl ?_
    refine v_aload_n (n := 4) xB_38 dX4_firstOtherwise_3 rfl rfl ?_
    refine v_gf_i (n := 7) (kz := 3) xB_38 dX4_firstOtherwise_4 xO_38 fl_4_55 fg_3_3 rfl (sh_N hq _ _ _) rfl rfl ?_
    refine v_ic_ge_n (n := 10) xB_38 dX4_firstOtherwise_7 (by decide) rfl (by first | omega | (simp only [sA_same, sA_s, ud_s, Int.reduceEq, if_true, if_false, ite_true, ite_false, ↓reduceIte, and_true, true_and, eq_self, Int.add_zero, Int.reduceAdd]; omega) | (simp (disch := omega) only [sA_same, sA_ne, ud_eq, ud_ne, Int.add_zero, Int.reduceAdd]; omega)) ?_
    refine v_aload_n (n := 11) xB_38 dX4_firstOtherwise_10 rfl rfl ?_
    refine v_aload_n (n := 12) xB_38 dX4_firstOtherwise_11 rfl rfl ?_
    refine v_gf_s (n := 15) (kz := 0) xB_38 dX4_firstOtherwise_12 xO_38 fl_4_58 fg_3_0 (sh_N hq _ _ _) rfl (st_N1 hq) rfl ?_
    refine v_iload_n (n := 16) xB_38 dX4_firstOtherwise_15 rfl rfl ?_
    refine v_iaload (n := 17) (lz := (notN q : Int)) xB_38 dX4_firstOtherwise_16 (sh_N1 hq _ _ _) rfl (by first | omega | (simp only [sA_same, sA_s, ud_s, Int.reduceEq, if_true, if_false, ite_true, ite_false, ↓reduceIte, and_true, true_and, eq_self, Int.add_zero, Int.reduceAdd]; omega) | (simp (disch := omega) only [sA_same, sA_ne, ud_eq, ud_ne, Int.add_zero, Int.reduceAdd]; omega)) rfl ?_
    refine v_aload_n (n := 18) xB_38 dX4_firstOtherwise_17 rfl rfl ?_
    refine v_gf_s (n := 21) (kz := 1) xB_38 dX4_firstOtherwise_18 xO_38 fl_4_61 fg_3_1 (sh_N hq _ _ _) rfl (st_N2 hq) rfl ?_
    refine v_iload_n (n := 22) xB_38 dX4_firstOtherwise_21 rfl rfl ?_
    refine v_iaload (n := 23) (lz := (notN q : Int)) xB_38 dX4_firstOtherwise_22 (sh_N2 hq _ _ _) rfl (by first | omega | (simp only [sA_same, sA_s, ud_s, Int.reduceEq, if_true, if_false, ite_true, ite_false, ↓reduceIte, and_true, true_and, eq_self, Int.add_zero, Int.reduceAdd]; omega) | (simp (disch := omega) only [sA_same, sA_ne, ud_eq, ud_ne, Int.add_zero, Int.reduceAdd]; omega)) rfl ?_
    refine v_call_v (n := 26) xB_38 dX4_firstOtherwise_23 xO_38 iv_4_34 rfl (sh_P hp _ _ _) rfl rfl rfl ?_
    refine k_pageOn (by omega) hp (by first | omega | (simp only [sA_same, sA_s, ud_s, Int.reduceEq, if_true, if_false, ite_true, ite_false, ↓reduceIte, and_true, true_and, eq_self, Int.add_zero, Int.reduceAdd]; omega) | (simp (disch := omega) only [sA_same, sA_ne, ud_eq, ud_ne, Int.add_zero, Int.reduceAdd]; omega)) (h1k k (by omega) (by omega)) hc ?_
    refine v_aload_n (n := 27) xB_38 dX4_firstOtherwise_26 rfl rfl ?_
    refine v_gf_s (n := 30) (kz := 2) xB_38 dX4_firstOtherwise_27 xO_38 fl_4_64 fg_3_2 (sh_N hq _ _ _) rfl (st_N3 hq) rfl ?_
    refine v_iload_n (n := 31) xB_38 dX4_firstOtherwise_30 rfl rfl ?_
    refine v_iaload (n := 32) (lz := (notN q : Int)) xB_38 dX4_firstOtherwise_31 (sh_N3 hq _ _ _) rfl (by first | omega | (simp only [sA_same, sA_s, ud_s, Int.reduceEq, if_true, if_false, ite_true, ite_false, ↓reduceIte, and_true, true_and, eq_self, Int.add_zero, Int.reduceAdd]; omega) | (simp (disch := omega) only [sA_same, sA_ne, ud_eq, ud_ne, Int.add_zero, Int.reduceAdd]; omega)) rfl ?_
    refine v_ic_eq (t := 37) (n := 35) xB_38 dX4_firstOtherwise_32 (by decide) rfl rfl (fun g1 => ?_) (fun g1 => ?_)
    · refine v_iinc2 (n := 40) xB_38 dX4_firstOtherwise_37 rfl (by first | omega | (simp only [sA_same, sA_s, ud_s, Int.reduceEq, if_true, if_false, ite_true, ite_false, ↓reduceIte, and_true, true_and, eq_self, Int.add_zero, Int.reduceAdd]; omega) | (simp (disch := omega) only [sA_same, sA_ne, ud_eq, ud_ne, Int.add_zero, Int.reduceAdd]; omega)) rfl ?_
      refine v_goto (t := 2) xB_38 dX4_firstOtherwise_40 (by decide) rfl ?_
      refine ih _ ⟨rfl, ?_⟩
      rw [← hw]
      exact (fs_to (N := m q 3) (k := k) (by omega) (by omega) (decide_eq_false (by omega))).symm
    · refine v_iload_n (n := 36) xB_38 dX4_firstOtherwise_35 rfl rfl ?_
      refine v_ireturn0 xB_38 dX4_firstOtherwise_36 xK_38 ?_
      rw [← hw] at o1
      first | exact o1 | (rw [fs_at (by omega) (by omega) (decide_eq_true (by assumption))] at o1; exact o1)
  · exact ⟨rfl, by unfold r3F; rw [show m q 3 - 0 = m q 3 by omega]⟩
def cp12 (g f : Int → Int) : Int → Int := fun j => if 0 ≤ j ∧ j < 0 + 12 then g (0 + (j - 0)) else f j
theorem cp12_ok {g f : Int → Int} (h : okc g) (h2 : okc f) : okc (cp12 g f) := by
  intro j; unfold cp12; split
  · exact h _
  · exact h2 _
theorem cp12_at {g f : Int → Int} {j : Int} (h : 0 ≤ j ∧ j < 12) : cp12 g f j = g j := by
  unfold cp12; rw [if_pos (by omega), show 0 + (j - 0) = j by omega]
set_option maxHeartbeats 1000000 in
theorem k_pcopy {d : Nat} {p p2 : Int} {m : PM} {dy : List (Nat × Nat)} {L : Nat} {Q : Option PV → PS → Prop} (hd : 1 ≤ d) (hp : pilA p) (hp2 : pilA p2) (o1 : Q (none) (setA (setA m p (ud (m p) 1 (m p2 1))) (p + 1) (cp12 (m (p2 + 1)) (m (p + 1))), (none, (dy, L)))) : C d 24 [.inr (.inr p), .inr (.inr p2)] (m, (none, (dy, L))) Q := by
  refine C_go (k := 0) hd xL_24 (fun d hd => ?_)
  show V d 24 (0, ([some (.inr (.inr p)), some (.inr (.inr p2))], ([], (m, (none, (dy, L)))))) Q
  have hpd : p = 2 ∨ p = 28 ∨ p = 62 ∨ p = 64 := hp
  have hpd2 : p2 = 2 ∨ p2 = 28 ∨ p2 = 62 ∨ p2 = 64 := hp2
  refine v_aload_n (n := 1) xB_24 dX4_copyFrom_0 rfl rfl ?_
  refine v_gf_s (n := 4) (kz := 0) xB_24 dX4_copyFrom_1 xO_24 fl_4_9 fg_4_0 (sh_P hp2 _ _ _) rfl (st_P hp2) rfl ?_
  refine v_iconst (n := 5) xB_24 dX4_copyFrom_4 ⟨by decide, by decide⟩ rfl ?_
  refine v_aload_n (n := 6) xB_24 dX4_copyFrom_5 rfl rfl ?_
  refine v_gf_s (n := 9) (kz := 0) xB_24 dX4_copyFrom_6 xO_24 fl_4_9 fg_4_0 (sh_P hp _ _ _) rfl (st_P hp) rfl ?_
  refine v_iconst (n := 10) xB_24 dX4_copyFrom_9 ⟨by decide, by decide⟩ rfl ?_
  refine v_bipush (n := 12) xB_24 dX4_copyFrom_10 ⟨by decide, by decide⟩ rfl ?_
  refine v_acp (tb := 0) (n := 15) xB_24 dX4_copyFrom_12 xO_24 sp_4_15 (sh_PA hp2 _ _ _) (sh_PA hp _ _ _) (by decide) (by omega) rfl rfl ?_
  refine v_aload_n (n := 16) xB_24 dX4_copyFrom_15 rfl rfl ?_
  refine v_aload_n (n := 17) xB_24 dX4_copyFrom_16 rfl rfl ?_
  refine v_gf_i (n := 20) (kz := 1) xB_24 dX4_copyFrom_17 xO_24 fl_4_21 fg_4_1 rfl (sh_P hp2 _ _ _) rfl rfl ?_
  refine v_pf_i (n := 23) (kz := 1) xB_24 dX4_copyFrom_20 xO_24 fl_4_21 fg_4_1 (Or.inl fn_4_1) (sh_P hp _ _ _) (by unfold pilA at hp; omega) rfl rfl ?_
  refine v_return xB_24 dX4_copyFrom_23 xK_24 ?_
  (try simp (disch := omega) only [sA_same, sA_ne, sA_sA, sA_sr, sB_s, ud_eq, ud_ne, ud_ud, ud_sr, uB_s, Int.add_zero, Int.reduceAdd])
  exact o1
