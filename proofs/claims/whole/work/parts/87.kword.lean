/-! The class: words, tests. -/
def wdR (T : Int → Int) (n a : Int) : Nat → Int → Int × Int
  | 0, mo => (-1, a + mo)
  | j + 1, mo => if mw T n a (3 - j) = 4 then (3 - j, a + 4) else wdR T n a j (if mo < mw T n a (3 - j) then mw T n a (3 - j) else mo)
theorem mt_0 {T : Int → Int} {n a l0 : Int} (h : nxt T n a ≠ l0) (l1 l2 l3 : Int) : mt4 T n a l0 l1 l2 l3 = 0 := by unfold mt4; rw [if_neg h]
theorem mt_1 {T : Int → Int} {n a l0 l1 : Int} (h : nxt T n a = l0) (h1 : nxt T n (a + 1) ≠ l1) (l2 l3 : Int) : mt4 T n a l0 l1 l2 l3 = 1 := by unfold mt4; rw [if_pos h, if_neg h1]
theorem mt_2 {T : Int → Int} {n a l0 l1 : Int} (h : nxt T n a = l0) (h1 : nxt T n (a + 1) = l1) (l2 l3 : Int) : 2 ≤ mt4 T n a l0 l1 l2 l3 := by unfold mt4; rw [if_pos h, if_pos h1]; (repeat' split) <;> omega
theorem mw_0 (T : Int → Int) (n a : Int) : mw T n a 0 = mt4 T n a 102 114 111 109 := by unfold mw; rw [if_pos rfl]
theorem mw_1 (T : Int → Int) (n a : Int) : mw T n a 1 = mt4 T n a 116 105 108 108 := by unfold mw; rw [if_neg (by decide), if_pos rfl]
theorem mw_2 (T : Int → Int) (n a : Int) : mw T n a 2 = mt4 T n a 115 107 105 112 := by unfold mw; rw [if_neg (by decide), if_neg (by decide), if_pos rfl]
theorem mw_3 (T : Int → Int) (n a : Int) : mw T n a 3 = mt4 T n a 116 117 114 110 := by unfold mw; rw [if_neg (by decide), if_neg (by decide), if_neg (by decide)]
theorem wdR_4 (T : Int → Int) (n a : Int) : wdR T n a 4 0 = wdF T n a := by
  have b0 := mt4_in T n a 102 114 111 109
  have b1 := mt4_in T n a 116 105 108 108
  have b2 := mt4_in T n a 115 107 105 112
  have b3 := mt4_in T n a 116 117 114 110
  have e : wdR T n a 4 0 = if mw T n a 0 = 4 then (0, a + 4) else if mw T n a 1 = 4 then (1, a + 4) else if mw T n a 2 = 4 then (2, a + 4) else if mw T n a 3 = 4 then (3, a + 4) else (-1, a + (if (if (if (if (0 : Int) < mw T n a 0 then mw T n a 0 else 0) < mw T n a 1 then mw T n a 1 else (if (0 : Int) < mw T n a 0 then mw T n a 0 else 0)) < mw T n a 2 then mw T n a 2 else (if (if (0 : Int) < mw T n a 0 then mw T n a 0 else 0) < mw T n a 1 then mw T n a 1 else (if (0 : Int) < mw T n a 0 then mw T n a 0 else 0))) < mw T n a 3 then mw T n a 3 else (if (if (if (0 : Int) < mw T n a 0 then mw T n a 0 else 0) < mw T n a 1 then mw T n a 1 else (if (0 : Int) < mw T n a 0 then mw T n a 0 else 0)) < mw T n a 2 then mw T n a 2 else (if (if (0 : Int) < mw T n a 0 then mw T n a 0 else 0) < mw T n a 1 then mw T n a 1 else (if (0 : Int) < mw T n a 0 then mw T n a 0 else 0))))) := rfl
  rw [e]
  unfold wdF wst
  by_cases h1 : nxt T n a = 102
  · have z1 := mt_0 (T := T) (n := n) (a := a) (l0 := 116) (by omega) 105 108 108
    have z2 := mt_0 (T := T) (n := n) (a := a) (l0 := 115) (by omega) 107 105 112
    have z3 := mt_0 (T := T) (n := n) (a := a) (l0 := 116) (by omega) 117 114 110
    rw [if_pos h1, mw_0, mw_1, mw_2, mw_3, z1, z2, z3]
    (repeat' split) <;> first | rfl | omega | (refine Prod.ext ?_ ?_ <;> dsimp only <;> omega)
  · by_cases h2 : nxt T n a = 115
    · have z0 := mt_0 (T := T) (n := n) (a := a) (l0 := 102) (by omega) 114 111 109
      have z1 := mt_0 (T := T) (n := n) (a := a) (l0 := 116) (by omega) 105 108 108
      have z3 := mt_0 (T := T) (n := n) (a := a) (l0 := 116) (by omega) 117 114 110
      rw [if_neg h1, if_pos h2, mw_0, mw_1, mw_2, mw_3, z0, z1, z3]
      (repeat' split) <;> first | rfl | omega | (refine Prod.ext ?_ ?_ <;> dsimp only <;> omega)
    · have z0 := mt_0 (T := T) (n := n) (a := a) (l0 := 102) (by omega) 114 111 109
      have z2 := mt_0 (T := T) (n := n) (a := a) (l0 := 115) (by omega) 107 105 112
      rw [if_neg h1, if_neg h2]
      by_cases h3 : nxt T n (a + 1) = 117
      · rw [if_pos h3, mw_0, mw_1, mw_2, mw_3, z0, z2]
        by_cases h4 : nxt T n a = 116
        · have z1 := mt_1 (T := T) (n := n) (a := a) (l0 := 116) (l1 := 105) h4 (by omega) 108 108
          have z3 := mt_2 (T := T) (n := n) (a := a) (l0 := 116) (l1 := 117) h4 h3 114 110
          rw [z1]
          (repeat' split) <;> first | rfl | omega | (refine Prod.ext ?_ ?_ <;> dsimp only <;> omega)
        · have z1 := mt_0 (T := T) (n := n) (a := a) (l0 := 116) h4 105 108 108
          have z3 := mt_0 (T := T) (n := n) (a := a) (l0 := 116) h4 117 114 110
          rw [z1, z3]
          (repeat' split) <;> first | rfl | omega | (refine Prod.ext ?_ ?_ <;> dsimp only <;> omega)
      · rw [if_neg h3, mw_0, mw_1, mw_2, mw_3, z0, z2]
        by_cases h4 : nxt T n a = 116
        · have z3 := mt_1 (T := T) (n := n) (a := a) (l0 := 116) (l1 := 117) h4 h3 114 110
          rw [z3]
          by_cases h5 : nxt T n (a + 1) = 105
          · have z1 := mt_2 (T := T) (n := n) (a := a) (l0 := 116) (l1 := 105) h4 h5 108 108
            (repeat' split) <;> first | rfl | omega | (refine Prod.ext ?_ ?_ <;> dsimp only <;> omega)
          · have z1 := mt_1 (T := T) (n := n) (a := a) (l0 := 116) (l1 := 105) h4 h5 108 108
            rw [z1]
            (repeat' split) <;> first | rfl | omega | (refine Prod.ext ?_ ?_ <;> dsimp only <;> omega)
        · have z1 := mt_0 (T := T) (n := n) (a := a) (l0 := 116) h4 105 108 108
          have z3 := mt_0 (T := T) (n := n) (a := a) (l0 := 116) h4 117 114 110
          rw [z1, z3]
          (repeat' split) <;> first | rfl | omega | (refine Prod.ext ?_ ?_ <;> dsimp only <;> omega)
set_option maxHeartbeats 1000000 in
theorem vk_w4 {d : Nat} {m : PM} {dy : List (Nat × Nat)} {L : Nat} {Q : Option PV → PS → Prop} {mo : Int} (hd : 5 ≤ d) (hK : KT m) (hT : (0 ≤ m 53 1 ∧ m 53 1 ≤ 100) ∧ (0 ≤ m 53 2 ∧ m 53 2 ≤ m 53 1)) (hm : 0 ≤ mo ∧ mo ≤ 4) (x3 : Option PV) (o1 : Q (some (.inl (wdR (m 54) (m 53 1) (m 53 2) 0 mo).1)) (setA m 53 (ud (m 53) 2 (wdR (m 54) (m 53 1) (m 53 2) 0 mo).2), (none, (dy, L)))) : V d 49 (4, ([some (.inr (.inr 53)), some (.inl mo), some (.inl 4), x3], ([], (m, (none, (dy, L)))))) Q := by
  refine v_iload_n (n := 5) xB_49 dX5_word_4 rfl rfl ?_
  refine v_iconst (n := 6) xB_49 dX5_word_5 ⟨by decide, by decide⟩ rfl ?_
  refine v_ic_ge_y (t := 88) xB_49 dX5_word_6 (by decide) rfl (by decide) ?_
  refine v_aload_n (n := 89) xB_49 dX5_word_88 rfl rfl ?_
  refine v_dup (n := 90) xB_49 dX5_word_89 rfl rfl ?_
  refine v_gf_i (n := 93) (kz := 2) xB_49 dX5_word_90 xO_49 fl_5_28 fg_5_2 rfl (sh_53 _ _ _) rfl rfl ?_
  refine v_iload_n (n := 94) xB_49 dX5_word_93 rfl rfl ?_
  refine v_iadd (n := 95) xB_49 dX5_word_94 (by first | omega | (simp only [sA_same, sA_s, ud_s, Int.reduceEq, if_true, if_false, ite_true, ite_false, ↓reduceIte, and_true, true_and, eq_self, Int.add_zero, Int.reduceAdd]; omega) | (simp (disch := omega) only [sA_same, sA_ne, ud_eq, ud_ne, Int.add_zero, Int.reduceAdd]; omega)) rfl ?_
  refine v_pf_i (n := 98) (kz := 2) xB_49 dX5_word_95 xO_49 fl_5_28 fg_5_2 (Or.inl fn_5_2) (sh_53 _ _ _) (by decide) rfl rfl ?_
  refine v_iconst (n := 99) xB_49 dX5_word_98 ⟨by decide, by decide⟩ rfl ?_
  refine v_ireturn0 xB_49 dX5_word_99 xK_49 ?_
  exact o1
set_option maxHeartbeats 1000000 in
theorem vk_w3 {d : Nat} {m : PM} {dy : List (Nat × Nat)} {L : Nat} {Q : Option PV → PS → Prop} {mo : Int} (hd : 5 ≤ d) (hK : KT m) (hT : (0 ≤ m 53 1 ∧ m 53 1 ≤ 100) ∧ (0 ≤ m 53 2 ∧ m 53 2 ≤ m 53 1)) (hm : 0 ≤ mo ∧ mo ≤ 4) (x3 : Option PV) (o1 : Q (some (.inl (wdR (m 54) (m 53 1) (m 53 2) 1 mo).1)) (setA m 53 (ud (m 53) 2 (wdR (m 54) (m 53 1) (m 53 2) 1 mo).2), (none, (dy, L)))) : V d 49 (4, ([some (.inr (.inr 53)), some (.inl mo), some (.inl 3), x3], ([], (m, (none, (dy, L)))))) Q := by
  have l0 : m (-20) 12 = 116 := hK.1 12 (by decide)
  have x0 : m 53 2 < m 53 1 → nxt (m 54) (m 53 1) (m 53 2) = m 54 (m 53 2) := fun h => nx_t h
  have y0 : ¬ m 53 2 < m 53 1 → nxt (m 54) (m 53 1) (m 53 2) = -1 := fun h => nx_f h
  have l1 : m (-20) 13 = 117 := hK.1 13 (by decide)
  have x1 : m 53 2 + 1 < m 53 1 → nxt (m 54) (m 53 1) (m 53 2 + 1) = m 54 (m 53 2 + 1) := fun h => nx_t h
  have y1 : ¬ m 53 2 + 1 < m 53 1 → nxt (m 54) (m 53 1) (m 53 2 + 1) = -1 := fun h => nx_f h
  have l2 : m (-20) 14 = 114 := hK.1 14 (by decide)
  have x2 : m 53 2 + 2 < m 53 1 → nxt (m 54) (m 53 1) (m 53 2 + 2) = m 54 (m 53 2 + 2) := fun h => nx_t h
  have y2 : ¬ m 53 2 + 2 < m 53 1 → nxt (m 54) (m 53 1) (m 53 2 + 2) = -1 := fun h => nx_f h
  have l3 : m (-20) 15 = 110 := hK.1 15 (by decide)
  have x3 : m 53 2 + 3 < m 53 1 → nxt (m 54) (m 53 1) (m 53 2 + 3) = m 54 (m 53 2 + 3) := fun h => nx_t h
  have y3 : ¬ m 53 2 + 3 < m 53 1 → nxt (m 54) (m 53 1) (m 53 2 + 3) = -1 := fun h => nx_f h
  have hw : wdR (m 54) (m 53 1) (m 53 2) 1 mo = if mt4 (m 54) (m 53 1) (m 53 2) 116 117 114 110 = 4 then (3, m 53 2 + 4) else wdR (m 54) (m 53 1) (m 53 2) 0 (if mo < mt4 (m 54) (m 53 1) (m 53 2) 116 117 114 110 then mt4 (m 54) (m 53 1) (m 53 2) 116 117 114 110 else mo) := by rw [← mw_3]; rfl
  rw [hw] at o1
  clear hw
  refine v_iload_n (n := 5) xB_49 dX5_word_4 rfl rfl ?_
  refine v_iconst (n := 6) xB_49 dX5_word_5 ⟨by decide, by decide⟩ rfl ?_
  refine v_ic_ge_n (n := 9) xB_49 dX5_word_6 (by decide) rfl (by decide) ?_
  refine v_iconst (n := 10) xB_49 dX5_word_9 ⟨by decide, by decide⟩ rfl ?_
  refine v_istore_n3 (n := 11) xB_49 dX5_word_10 rfl rfl ?_
  refine v_iload_n (n := 12) xB_49 dX5_word_11 rfl rfl ?_
  refine v_iconst (n := 13) xB_49 dX5_word_12 ⟨by decide, by decide⟩ rfl ?_
  refine v_ic_ge_n (n := 16) xB_49 dX5_word_13 (by decide) rfl (by decide) ?_
  refine v_aload_n (n := 17) xB_49 dX5_word_16 rfl rfl ?_
  refine v_gf_i (n := 20) (kz := 2) xB_49 dX5_word_17 xO_49 fl_5_28 fg_5_2 rfl (sh_53 _ _ _) rfl rfl ?_
  refine v_iload_n (n := 21) xB_49 dX5_word_20 rfl rfl ?_
  refine v_iadd (n := 22) xB_49 dX5_word_21 (by first | omega | (simp only [sA_same, sA_s, ud_s, Int.reduceEq, if_true, if_false, ite_true, ite_false, ↓reduceIte, and_true, true_and, eq_self, Int.add_zero, Int.reduceAdd]; omega) | (simp (disch := omega) only [sA_same, sA_ne, ud_eq, ud_ne, Int.add_zero, Int.reduceAdd]; omega)) rfl ?_
  refine v_aload_n (n := 23) xB_49 dX5_word_22 rfl rfl ?_
  refine v_gf_i (n := 26) (kz := 1) xB_49 dX5_word_23 xO_49 fl_5_59 fg_5_1 rfl (sh_53 _ _ _) rfl rfl ?_
  refine v_ic_ge (t := 59) (n := 29) xB_49 dX5_word_26 (by decide) rfl rfl (fun g1 => ?_) (fun g1 => ?_)
  · refine v_iload_n (n := 60) xB_49 dX5_word_59 rfl rfl ?_
    refine v_iconst (n := 61) xB_49 dX5_word_60 ⟨by decide, by decide⟩ rfl ?_
    refine v_ic_ne_y (t := 76) xB_49 dX5_word_61 (by decide) rfl (by decide) ?_
    refine v_iload_n (n := 77) xB_49 dX5_word_76 rfl rfl ?_
    refine v_iload_n (n := 78) xB_49 dX5_word_77 rfl rfl ?_
    refine v_max (n := 81) xB_49 dX5_word_78 xO_49 sp_5_81 rfl rfl ?_
    refine v_istore_n1 (n := 82) xB_49 dX5_word_81 rfl rfl ?_
    refine v_iinc2 (n := 85) xB_49 dX5_word_82 rfl (by first | omega | (simp only [sA_same, sA_s, ud_s, Int.reduceEq, if_true, if_false, ite_true, ite_false, ↓reduceIte, and_true, true_and, eq_self, Int.add_zero, Int.reduceAdd]; omega) | (simp (disch := omega) only [sA_same, sA_ne, ud_eq, ud_ne, Int.add_zero, Int.reduceAdd]; omega)) rfl ?_
    refine v_goto (t := 4) xB_49 dX5_word_85 (by decide) rfl ?_
    first
    | (have q : mt4 (m 54) (m 53 1) (m 53 2) 116 117 114 110 = 0 := by unfold mt4; rw [if_neg (c := nxt (m 54) (m 53 1) (m 53 2) = 116) (by omega)]
       rw [q, if_neg (by decide)] at o1
       exact vk_w4 hd hK hT (by split <;> omega) _ o1)
    | (have q : mt4 (m 54) (m 53 1) (m 53 2) 116 117 114 110 = 1 := by unfold mt4; rw [if_pos (c := nxt (m 54) (m 53 1) (m 53 2) = 116) (by omega), if_neg (c := nxt (m 54) (m 53 1) (m 53 2 + 1) = 117) (by omega)]
       rw [q, if_neg (by decide)] at o1
       exact vk_w4 hd hK hT (by split <;> omega) _ o1)
    | (have q : mt4 (m 54) (m 53 1) (m 53 2) 116 117 114 110 = 2 := by unfold mt4; rw [if_pos (c := nxt (m 54) (m 53 1) (m 53 2) = 116) (by omega), if_pos (c := nxt (m 54) (m 53 1) (m 53 2 + 1) = 117) (by omega), if_neg (c := nxt (m 54) (m 53 1) (m 53 2 + 2) = 114) (by omega)]
       rw [q, if_neg (by decide)] at o1
       exact vk_w4 hd hK hT (by split <;> omega) _ o1)
    | (have q : mt4 (m 54) (m 53 1) (m 53 2) 116 117 114 110 = 3 := by unfold mt4; rw [if_pos (c := nxt (m 54) (m 53 1) (m 53 2) = 116) (by omega), if_pos (c := nxt (m 54) (m 53 1) (m 53 2 + 1) = 117) (by omega), if_pos (c := nxt (m 54) (m 53 1) (m 53 2 + 2) = 114) (by omega), if_neg (c := nxt (m 54) (m 53 1) (m 53 2 + 3) = 110) (by omega)]
       rw [q, if_neg (by decide)] at o1
       exact vk_w4 hd hK hT (by split <;> omega) _ o1)
  · refine v_aload_n (n := 30) xB_49 dX5_word_29 rfl rfl ?_
    refine v_gf_s (n := 33) (kz := 0) xB_49 dX5_word_30 xO_49 fl_5_9 fg_5_0 (sh_53 _ _ _) rfl st_53_0 rfl ?_
    refine v_aload_n (n := 34) xB_49 dX5_word_33 rfl rfl ?_
    refine v_gf_i (n := 37) (kz := 2) xB_49 dX5_word_34 xO_49 fl_5_28 fg_5_2 rfl (sh_53 _ _ _) rfl rfl ?_
    refine v_iload_n (n := 38) xB_49 dX5_word_37 rfl rfl ?_
    refine v_iadd (n := 39) xB_49 dX5_word_38 (by first | omega | (simp only [sA_same, sA_s, ud_s, Int.reduceEq, if_true, if_false, ite_true, ite_false, ↓reduceIte, and_true, true_and, eq_self, Int.add_zero, Int.reduceAdd]; omega) | (simp (disch := omega) only [sA_same, sA_ne, ud_eq, ud_ne, Int.add_zero, Int.reduceAdd]; omega)) rfl ?_
    refine v_iaload (n := 40) (lz := 100) xB_49 dX5_word_39 (sh_54 _ _ _) rfl (by first | omega | (simp only [sA_same, sA_s, ud_s, Int.reduceEq, if_true, if_false, ite_true, ite_false, ↓reduceIte, and_true, true_and, eq_self, Int.add_zero, Int.reduceAdd]; omega) | (simp (disch := omega) only [sA_same, sA_ne, ud_eq, ud_ne, Int.add_zero, Int.reduceAdd]; omega)) rfl ?_
    refine v_ldc_r (n := 42) xB_49 dX5_word_40 xO_49 lc_5_109 rfl ?_
    refine v_iload_n (n := 43) xB_49 dX5_word_42 rfl rfl ?_
    refine v_iconst (n := 44) xB_49 dX5_word_43 ⟨by decide, by decide⟩ rfl ?_
    refine v_imul (n := 45) xB_49 dX5_word_44 (by first | omega | (simp only [sA_same, sA_s, ud_s, Int.reduceEq, if_true, if_false, ite_true, ite_false, ↓reduceIte, and_true, true_and, eq_self, Int.add_zero, Int.reduceAdd]; omega) | (simp (disch := omega) only [sA_same, sA_ne, ud_eq, ud_ne, Int.add_zero, Int.reduceAdd]; omega)) rfl ?_
    refine v_iload_n (n := 46) xB_49 dX5_word_45 rfl rfl ?_
    refine v_iadd (n := 47) xB_49 dX5_word_46 (by first | omega | (simp only [sA_same, sA_s, ud_s, Int.reduceEq, if_true, if_false, ite_true, ite_false, ↓reduceIte, and_true, true_and, eq_self, Int.add_zero, Int.reduceAdd]; omega) | (simp (disch := omega) only [sA_same, sA_ne, ud_eq, ud_ne, Int.add_zero, Int.reduceAdd]; omega)) rfl ?_
    refine v_call_t (cls := 0) (n := 50) xB_49 dX5_word_47 xO_49 iv_5_111 rfl (by first | omega | (simp only [sA_same, sA_s, ud_s, Int.reduceEq, if_true, if_false, ite_true, ite_false, ↓reduceIte, and_true, true_and, eq_self, Int.add_zero, Int.reduceAdd]; omega) | (simp (disch := omega) only [sA_same, sA_ne, ud_eq, ud_ne, Int.add_zero, Int.reduceAdd]; omega)) rfl rfl rfl ?_
    refine j_charAt (by omega) (Or.inl rfl) (sh_m20 _ _ _) (by simp only [Int.reduceNeg, Int.reduceSub, Int.reduceMul, Int.reduceAdd, Int.add_zero]; omega) (by simp only [Int.reduceNeg, Int.reduceSub, Int.reduceMul, Int.reduceAdd, Int.add_zero]; omega) ?_
    (try simp only [Int.reduceNeg, Int.reduceSub, Int.reduceMul, Int.reduceAdd, Int.add_zero])
    refine v_ic_ne (t := 59) (n := 53) xB_49 dX5_word_50 (by decide) rfl rfl (fun g2 => ?_) (fun g2 => ?_)
    · refine v_iload_n (n := 60) xB_49 dX5_word_59 rfl rfl ?_
      refine v_iconst (n := 61) xB_49 dX5_word_60 ⟨by decide, by decide⟩ rfl ?_
      refine v_ic_ne_y (t := 76) xB_49 dX5_word_61 (by decide) rfl (by decide) ?_
      refine v_iload_n (n := 77) xB_49 dX5_word_76 rfl rfl ?_
      refine v_iload_n (n := 78) xB_49 dX5_word_77 rfl rfl ?_
      refine v_max (n := 81) xB_49 dX5_word_78 xO_49 sp_5_81 rfl rfl ?_
      refine v_istore_n1 (n := 82) xB_49 dX5_word_81 rfl rfl ?_
      refine v_iinc2 (n := 85) xB_49 dX5_word_82 rfl (by first | omega | (simp only [sA_same, sA_s, ud_s, Int.reduceEq, if_true, if_false, ite_true, ite_false, ↓reduceIte, and_true, true_and, eq_self, Int.add_zero, Int.reduceAdd]; omega) | (simp (disch := omega) only [sA_same, sA_ne, ud_eq, ud_ne, Int.add_zero, Int.reduceAdd]; omega)) rfl ?_
      refine v_goto (t := 4) xB_49 dX5_word_85 (by decide) rfl ?_
      first
      | (have q : mt4 (m 54) (m 53 1) (m 53 2) 116 117 114 110 = 0 := by unfold mt4; rw [if_neg (c := nxt (m 54) (m 53 1) (m 53 2) = 116) (by omega)]
         rw [q, if_neg (by decide)] at o1
         exact vk_w4 hd hK hT (by split <;> omega) _ o1)
      | (have q : mt4 (m 54) (m 53 1) (m 53 2) 116 117 114 110 = 1 := by unfold mt4; rw [if_pos (c := nxt (m 54) (m 53 1) (m 53 2) = 116) (by omega), if_neg (c := nxt (m 54) (m 53 1) (m 53 2 + 1) = 117) (by omega)]
         rw [q, if_neg (by decide)] at o1
         exact vk_w4 hd hK hT (by split <;> omega) _ o1)
      | (have q : mt4 (m 54) (m 53 1) (m 53 2) 116 117 114 110 = 2 := by unfold mt4; rw [if_pos (c := nxt (m 54) (m 53 1) (m 53 2) = 116) (by omega), if_pos (c := nxt (m 54) (m 53 1) (m 53 2 + 1) = 117) (by omega), if_neg (c := nxt (m 54) (m 53 1) (m 53 2 + 2) = 114) (by omega)]
         rw [q, if_neg (by decide)] at o1
         exact vk_w4 hd hK hT (by split <;> omega) _ o1)
      | (have q : mt4 (m 54) (m 53 1) (m 53 2) 116 117 114 110 = 3 := by unfold mt4; rw [if_pos (c := nxt (m 54) (m 53 1) (m 53 2) = 116) (by omega), if_pos (c := nxt (m 54) (m 53 1) (m 53 2 + 1) = 117) (by omega), if_pos (c := nxt (m 54) (m 53 1) (m 53 2 + 2) = 114) (by omega), if_neg (c := nxt (m 54) (m 53 1) (m 53 2 + 3) = 110) (by omega)]
         rw [q, if_neg (by decide)] at o1
         exact vk_w4 hd hK hT (by split <;> omega) _ o1)
    · refine v_iinc3 (n := 56) xB_49 dX5_word_53 rfl (by first | omega | (simp only [sA_same, sA_s, ud_s, Int.reduceEq, if_true, if_false, ite_true, ite_false, ↓reduceIte, and_true, true_and, eq_self, Int.add_zero, Int.reduceAdd]; omega) | (simp (disch := omega) only [sA_same, sA_ne, ud_eq, ud_ne, Int.add_zero, Int.reduceAdd]; omega)) rfl ?_
      refine v_goto (t := 11) xB_49 dX5_word_56 (by decide) rfl ?_
      refine v_iload_n (n := 12) xB_49 dX5_word_11 rfl rfl ?_
      refine v_iconst (n := 13) xB_49 dX5_word_12 ⟨by decide, by decide⟩ rfl ?_
      refine v_ic_ge_n (n := 16) xB_49 dX5_word_13 (by decide) rfl (by decide) ?_
      refine v_aload_n (n := 17) xB_49 dX5_word_16 rfl rfl ?_
      refine v_gf_i (n := 20) (kz := 2) xB_49 dX5_word_17 xO_49 fl_5_28 fg_5_2 rfl (sh_53 _ _ _) rfl rfl ?_
      refine v_iload_n (n := 21) xB_49 dX5_word_20 rfl rfl ?_
      refine v_iadd (n := 22) xB_49 dX5_word_21 (by first | omega | (simp only [sA_same, sA_s, ud_s, Int.reduceEq, if_true, if_false, ite_true, ite_false, ↓reduceIte, and_true, true_and, eq_self, Int.add_zero, Int.reduceAdd]; omega) | (simp (disch := omega) only [sA_same, sA_ne, ud_eq, ud_ne, Int.add_zero, Int.reduceAdd]; omega)) rfl ?_
      refine v_aload_n (n := 23) xB_49 dX5_word_22 rfl rfl ?_
      refine v_gf_i (n := 26) (kz := 1) xB_49 dX5_word_23 xO_49 fl_5_59 fg_5_1 rfl (sh_53 _ _ _) rfl rfl ?_
      refine v_ic_ge (t := 59) (n := 29) xB_49 dX5_word_26 (by decide) rfl rfl (fun g3 => ?_) (fun g3 => ?_)
      · refine v_iload_n (n := 60) xB_49 dX5_word_59 rfl rfl ?_
        refine v_iconst (n := 61) xB_49 dX5_word_60 ⟨by decide, by decide⟩ rfl ?_
        refine v_ic_ne_y (t := 76) xB_49 dX5_word_61 (by decide) rfl (by decide) ?_
        refine v_iload_n (n := 77) xB_49 dX5_word_76 rfl rfl ?_
        refine v_iload_n (n := 78) xB_49 dX5_word_77 rfl rfl ?_
        refine v_max (n := 81) xB_49 dX5_word_78 xO_49 sp_5_81 rfl rfl ?_
        refine v_istore_n1 (n := 82) xB_49 dX5_word_81 rfl rfl ?_
        refine v_iinc2 (n := 85) xB_49 dX5_word_82 rfl (by first | omega | (simp only [sA_same, sA_s, ud_s, Int.reduceEq, if_true, if_false, ite_true, ite_false, ↓reduceIte, and_true, true_and, eq_self, Int.add_zero, Int.reduceAdd]; omega) | (simp (disch := omega) only [sA_same, sA_ne, ud_eq, ud_ne, Int.add_zero, Int.reduceAdd]; omega)) rfl ?_
        refine v_goto (t := 4) xB_49 dX5_word_85 (by decide) rfl ?_
        first
        | (have q : mt4 (m 54) (m 53 1) (m 53 2) 116 117 114 110 = 0 := by unfold mt4; rw [if_neg (c := nxt (m 54) (m 53 1) (m 53 2) = 116) (by omega)]
           rw [q, if_neg (by decide)] at o1
           exact vk_w4 hd hK hT (by split <;> omega) _ o1)
        | (have q : mt4 (m 54) (m 53 1) (m 53 2) 116 117 114 110 = 1 := by unfold mt4; rw [if_pos (c := nxt (m 54) (m 53 1) (m 53 2) = 116) (by omega), if_neg (c := nxt (m 54) (m 53 1) (m 53 2 + 1) = 117) (by omega)]
           rw [q, if_neg (by decide)] at o1
           exact vk_w4 hd hK hT (by split <;> omega) _ o1)
        | (have q : mt4 (m 54) (m 53 1) (m 53 2) 116 117 114 110 = 2 := by unfold mt4; rw [if_pos (c := nxt (m 54) (m 53 1) (m 53 2) = 116) (by omega), if_pos (c := nxt (m 54) (m 53 1) (m 53 2 + 1) = 117) (by omega), if_neg (c := nxt (m 54) (m 53 1) (m 53 2 + 2) = 114) (by omega)]
           rw [q, if_neg (by decide)] at o1
           exact vk_w4 hd hK hT (by split <;> omega) _ o1)
        | (have q : mt4 (m 54) (m 53 1) (m 53 2) 116 117 114 110 = 3 := by unfold mt4; rw [if_pos (c := nxt (m 54) (m 53 1) (m 53 2) = 116) (by omega), if_pos (c := nxt (m 54) (m 53 1) (m 53 2 + 1) = 117) (by omega), if_pos (c := nxt (m 54) (m 53 1) (m 53 2 + 2) = 114) (by omega), if_neg (c := nxt (m 54) (m 53 1) (m 53 2 + 3) = 110) (by omega)]
           rw [q, if_neg (by decide)] at o1
           exact vk_w4 hd hK hT (by split <;> omega) _ o1)
      · refine v_aload_n (n := 30) xB_49 dX5_word_29 rfl rfl ?_
        refine v_gf_s (n := 33) (kz := 0) xB_49 dX5_word_30 xO_49 fl_5_9 fg_5_0 (sh_53 _ _ _) rfl st_53_0 rfl ?_
        refine v_aload_n (n := 34) xB_49 dX5_word_33 rfl rfl ?_
        refine v_gf_i (n := 37) (kz := 2) xB_49 dX5_word_34 xO_49 fl_5_28 fg_5_2 rfl (sh_53 _ _ _) rfl rfl ?_
        refine v_iload_n (n := 38) xB_49 dX5_word_37 rfl rfl ?_
        refine v_iadd (n := 39) xB_49 dX5_word_38 (by first | omega | (simp only [sA_same, sA_s, ud_s, Int.reduceEq, if_true, if_false, ite_true, ite_false, ↓reduceIte, and_true, true_and, eq_self, Int.add_zero, Int.reduceAdd]; omega) | (simp (disch := omega) only [sA_same, sA_ne, ud_eq, ud_ne, Int.add_zero, Int.reduceAdd]; omega)) rfl ?_
        refine v_iaload (n := 40) (lz := 100) xB_49 dX5_word_39 (sh_54 _ _ _) rfl (by first | omega | (simp only [sA_same, sA_s, ud_s, Int.reduceEq, if_true, if_false, ite_true, ite_false, ↓reduceIte, and_true, true_and, eq_self, Int.add_zero, Int.reduceAdd]; omega) | (simp (disch := omega) only [sA_same, sA_ne, ud_eq, ud_ne, Int.add_zero, Int.reduceAdd]; omega)) rfl ?_
        refine v_ldc_r (n := 42) xB_49 dX5_word_40 xO_49 lc_5_109 rfl ?_
        refine v_iload_n (n := 43) xB_49 dX5_word_42 rfl rfl ?_
        refine v_iconst (n := 44) xB_49 dX5_word_43 ⟨by decide, by decide⟩ rfl ?_
        refine v_imul (n := 45) xB_49 dX5_word_44 (by first | omega | (simp only [sA_same, sA_s, ud_s, Int.reduceEq, if_true, if_false, ite_true, ite_false, ↓reduceIte, and_true, true_and, eq_self, Int.add_zero, Int.reduceAdd]; omega) | (simp (disch := omega) only [sA_same, sA_ne, ud_eq, ud_ne, Int.add_zero, Int.reduceAdd]; omega)) rfl ?_
        refine v_iload_n (n := 46) xB_49 dX5_word_45 rfl rfl ?_
        refine v_iadd (n := 47) xB_49 dX5_word_46 (by first | omega | (simp only [sA_same, sA_s, ud_s, Int.reduceEq, if_true, if_false, ite_true, ite_false, ↓reduceIte, and_true, true_and, eq_self, Int.add_zero, Int.reduceAdd]; omega) | (simp (disch := omega) only [sA_same, sA_ne, ud_eq, ud_ne, Int.add_zero, Int.reduceAdd]; omega)) rfl ?_
        refine v_call_t (cls := 0) (n := 50) xB_49 dX5_word_47 xO_49 iv_5_111 rfl (by first | omega | (simp only [sA_same, sA_s, ud_s, Int.reduceEq, if_true, if_false, ite_true, ite_false, ↓reduceIte, and_true, true_and, eq_self, Int.add_zero, Int.reduceAdd]; omega) | (simp (disch := omega) only [sA_same, sA_ne, ud_eq, ud_ne, Int.add_zero, Int.reduceAdd]; omega)) rfl rfl rfl ?_
        refine j_charAt (by omega) (Or.inl rfl) (sh_m20 _ _ _) (by simp only [Int.reduceNeg, Int.reduceSub, Int.reduceMul, Int.reduceAdd, Int.add_zero]; omega) (by simp only [Int.reduceNeg, Int.reduceSub, Int.reduceMul, Int.reduceAdd, Int.add_zero]; omega) ?_
        (try simp only [Int.reduceNeg, Int.reduceSub, Int.reduceMul, Int.reduceAdd, Int.add_zero])
        refine v_ic_ne (t := 59) (n := 53) xB_49 dX5_word_50 (by decide) rfl rfl (fun g4 => ?_) (fun g4 => ?_)
        · refine v_iload_n (n := 60) xB_49 dX5_word_59 rfl rfl ?_
          refine v_iconst (n := 61) xB_49 dX5_word_60 ⟨by decide, by decide⟩ rfl ?_
          refine v_ic_ne_y (t := 76) xB_49 dX5_word_61 (by decide) rfl (by decide) ?_
          refine v_iload_n (n := 77) xB_49 dX5_word_76 rfl rfl ?_
          refine v_iload_n (n := 78) xB_49 dX5_word_77 rfl rfl ?_
          refine v_max (n := 81) xB_49 dX5_word_78 xO_49 sp_5_81 rfl rfl ?_
          refine v_istore_n1 (n := 82) xB_49 dX5_word_81 rfl rfl ?_
          refine v_iinc2 (n := 85) xB_49 dX5_word_82 rfl (by first | omega | (simp only [sA_same, sA_s, ud_s, Int.reduceEq, if_true, if_false, ite_true, ite_false, ↓reduceIte, and_true, true_and, eq_self, Int.add_zero, Int.reduceAdd]; omega) | (simp (disch := omega) only [sA_same, sA_ne, ud_eq, ud_ne, Int.add_zero, Int.reduceAdd]; omega)) rfl ?_
          refine v_goto (t := 4) xB_49 dX5_word_85 (by decide) rfl ?_
          first
          | (have q : mt4 (m 54) (m 53 1) (m 53 2) 116 117 114 110 = 0 := by unfold mt4; rw [if_neg (c := nxt (m 54) (m 53 1) (m 53 2) = 116) (by omega)]
             rw [q, if_neg (by decide)] at o1
             exact vk_w4 hd hK hT (by split <;> omega) _ o1)
          | (have q : mt4 (m 54) (m 53 1) (m 53 2) 116 117 114 110 = 1 := by unfold mt4; rw [if_pos (c := nxt (m 54) (m 53 1) (m 53 2) = 116) (by omega), if_neg (c := nxt (m 54) (m 53 1) (m 53 2 + 1) = 117) (by omega)]
             rw [q, if_neg (by decide)] at o1
             exact vk_w4 hd hK hT (by split <;> omega) _ o1)
          | (have q : mt4 (m 54) (m 53 1) (m 53 2) 116 117 114 110 = 2 := by unfold mt4; rw [if_pos (c := nxt (m 54) (m 53 1) (m 53 2) = 116) (by omega), if_pos (c := nxt (m 54) (m 53 1) (m 53 2 + 1) = 117) (by omega), if_neg (c := nxt (m 54) (m 53 1) (m 53 2 + 2) = 114) (by omega)]
             rw [q, if_neg (by decide)] at o1
             exact vk_w4 hd hK hT (by split <;> omega) _ o1)
          | (have q : mt4 (m 54) (m 53 1) (m 53 2) 116 117 114 110 = 3 := by unfold mt4; rw [if_pos (c := nxt (m 54) (m 53 1) (m 53 2) = 116) (by omega), if_pos (c := nxt (m 54) (m 53 1) (m 53 2 + 1) = 117) (by omega), if_pos (c := nxt (m 54) (m 53 1) (m 53 2 + 2) = 114) (by omega), if_neg (c := nxt (m 54) (m 53 1) (m 53 2 + 3) = 110) (by omega)]
             rw [q, if_neg (by decide)] at o1
             exact vk_w4 hd hK hT (by split <;> omega) _ o1)
        · refine v_iinc3 (n := 56) xB_49 dX5_word_53 rfl (by first | omega | (simp only [sA_same, sA_s, ud_s, Int.reduceEq, if_true, if_false, ite_true, ite_false, ↓reduceIte, and_true, true_and, eq_self, Int.add_zero, Int.reduceAdd]; omega) | (simp (disch := omega) only [sA_same, sA_ne, ud_eq, ud_ne, Int.add_zero, Int.reduceAdd]; omega)) rfl ?_
          refine v_goto (t := 11) xB_49 dX5_word_56 (by decide) rfl ?_
          refine v_iload_n (n := 12) xB_49 dX5_word_11 rfl rfl ?_
          refine v_iconst (n := 13) xB_49 dX5_word_12 ⟨by decide, by decide⟩ rfl ?_
          refine v_ic_ge_n (n := 16) xB_49 dX5_word_13 (by decide) rfl (by decide) ?_
          refine v_aload_n (n := 17) xB_49 dX5_word_16 rfl rfl ?_
          refine v_gf_i (n := 20) (kz := 2) xB_49 dX5_word_17 xO_49 fl_5_28 fg_5_2 rfl (sh_53 _ _ _) rfl rfl ?_
          refine v_iload_n (n := 21) xB_49 dX5_word_20 rfl rfl ?_
          refine v_iadd (n := 22) xB_49 dX5_word_21 (by first | omega | (simp only [sA_same, sA_s, ud_s, Int.reduceEq, if_true, if_false, ite_true, ite_false, ↓reduceIte, and_true, true_and, eq_self, Int.add_zero, Int.reduceAdd]; omega) | (simp (disch := omega) only [sA_same, sA_ne, ud_eq, ud_ne, Int.add_zero, Int.reduceAdd]; omega)) rfl ?_
          refine v_aload_n (n := 23) xB_49 dX5_word_22 rfl rfl ?_
          refine v_gf_i (n := 26) (kz := 1) xB_49 dX5_word_23 xO_49 fl_5_59 fg_5_1 rfl (sh_53 _ _ _) rfl rfl ?_
          refine v_ic_ge (t := 59) (n := 29) xB_49 dX5_word_26 (by decide) rfl rfl (fun g5 => ?_) (fun g5 => ?_)
          · refine v_iload_n (n := 60) xB_49 dX5_word_59 rfl rfl ?_
            refine v_iconst (n := 61) xB_49 dX5_word_60 ⟨by decide, by decide⟩ rfl ?_
            refine v_ic_ne_y (t := 76) xB_49 dX5_word_61 (by decide) rfl (by decide) ?_
            refine v_iload_n (n := 77) xB_49 dX5_word_76 rfl rfl ?_
            refine v_iload_n (n := 78) xB_49 dX5_word_77 rfl rfl ?_
            refine v_max (n := 81) xB_49 dX5_word_78 xO_49 sp_5_81 rfl rfl ?_
            refine v_istore_n1 (n := 82) xB_49 dX5_word_81 rfl rfl ?_
            refine v_iinc2 (n := 85) xB_49 dX5_word_82 rfl (by first | omega | (simp only [sA_same, sA_s, ud_s, Int.reduceEq, if_true, if_false, ite_true, ite_false, ↓reduceIte, and_true, true_and, eq_self, Int.add_zero, Int.reduceAdd]; omega) | (simp (disch := omega) only [sA_same, sA_ne, ud_eq, ud_ne, Int.add_zero, Int.reduceAdd]; omega)) rfl ?_
            refine v_goto (t := 4) xB_49 dX5_word_85 (by decide) rfl ?_
            first
            | (have q : mt4 (m 54) (m 53 1) (m 53 2) 116 117 114 110 = 0 := by unfold mt4; rw [if_neg (c := nxt (m 54) (m 53 1) (m 53 2) = 116) (by omega)]
               rw [q, if_neg (by decide)] at o1
               exact vk_w4 hd hK hT (by split <;> omega) _ o1)
            | (have q : mt4 (m 54) (m 53 1) (m 53 2) 116 117 114 110 = 1 := by unfold mt4; rw [if_pos (c := nxt (m 54) (m 53 1) (m 53 2) = 116) (by omega), if_neg (c := nxt (m 54) (m 53 1) (m 53 2 + 1) = 117) (by omega)]
               rw [q, if_neg (by decide)] at o1
               exact vk_w4 hd hK hT (by split <;> omega) _ o1)
            | (have q : mt4 (m 54) (m 53 1) (m 53 2) 116 117 114 110 = 2 := by unfold mt4; rw [if_pos (c := nxt (m 54) (m 53 1) (m 53 2) = 116) (by omega), if_pos (c := nxt (m 54) (m 53 1) (m 53 2 + 1) = 117) (by omega), if_neg (c := nxt (m 54) (m 53 1) (m 53 2 + 2) = 114) (by omega)]
               rw [q, if_neg (by decide)] at o1
               exact vk_w4 hd hK hT (by split <;> omega) _ o1)
            | (have q : mt4 (m 54) (m 53 1) (m 53 2) 116 117 114 110 = 3 := by unfold mt4; rw [if_pos (c := nxt (m 54) (m 53 1) (m 53 2) = 116) (by omega), if_pos (c := nxt (m 54) (m 53 1) (m 53 2 + 1) = 117) (by omega), if_pos (c := nxt (m 54) (m 53 1) (m 53 2 + 2) = 114) (by omega), if_neg (c := nxt (m 54) (m 53 1) (m 53 2 + 3) = 110) (by omega)]
               rw [q, if_neg (by decide)] at o1
               exact vk_w4 hd hK hT (by split <;> omega) _ o1)
          · refine v_aload_n (n := 30) xB_49 dX5_word_29 rfl rfl ?_
            refine v_gf_s (n := 33) (kz := 0) xB_49 dX5_word_30 xO_49 fl_5_9 fg_5_0 (sh_53 _ _ _) rfl st_53_0 rfl ?_
            refine v_aload_n (n := 34) xB_49 dX5_word_33 rfl rfl ?_
            refine v_gf_i (n := 37) (kz := 2) xB_49 dX5_word_34 xO_49 fl_5_28 fg_5_2 rfl (sh_53 _ _ _) rfl rfl ?_
            refine v_iload_n (n := 38) xB_49 dX5_word_37 rfl rfl ?_
            refine v_iadd (n := 39) xB_49 dX5_word_38 (by first | omega | (simp only [sA_same, sA_s, ud_s, Int.reduceEq, if_true, if_false, ite_true, ite_false, ↓reduceIte, and_true, true_and, eq_self, Int.add_zero, Int.reduceAdd]; omega) | (simp (disch := omega) only [sA_same, sA_ne, ud_eq, ud_ne, Int.add_zero, Int.reduceAdd]; omega)) rfl ?_
            refine v_iaload (n := 40) (lz := 100) xB_49 dX5_word_39 (sh_54 _ _ _) rfl (by first | omega | (simp only [sA_same, sA_s, ud_s, Int.reduceEq, if_true, if_false, ite_true, ite_false, ↓reduceIte, and_true, true_and, eq_self, Int.add_zero, Int.reduceAdd]; omega) | (simp (disch := omega) only [sA_same, sA_ne, ud_eq, ud_ne, Int.add_zero, Int.reduceAdd]; omega)) rfl ?_
            refine v_ldc_r (n := 42) xB_49 dX5_word_40 xO_49 lc_5_109 rfl ?_
            refine v_iload_n (n := 43) xB_49 dX5_word_42 rfl rfl ?_
            refine v_iconst (n := 44) xB_49 dX5_word_43 ⟨by decide, by decide⟩ rfl ?_
            refine v_imul (n := 45) xB_49 dX5_word_44 (by first | omega | (simp only [sA_same, sA_s, ud_s, Int.reduceEq, if_true, if_false, ite_true, ite_false, ↓reduceIte, and_true, true_and, eq_self, Int.add_zero, Int.reduceAdd]; omega) | (simp (disch := omega) only [sA_same, sA_ne, ud_eq, ud_ne, Int.add_zero, Int.reduceAdd]; omega)) rfl ?_
            refine v_iload_n (n := 46) xB_49 dX5_word_45 rfl rfl ?_
            refine v_iadd (n := 47) xB_49 dX5_word_46 (by first | omega | (simp only [sA_same, sA_s, ud_s, Int.reduceEq, if_true, if_false, ite_true, ite_false, ↓reduceIte, and_true, true_and, eq_self, Int.add_zero, Int.reduceAdd]; omega) | (simp (disch := omega) only [sA_same, sA_ne, ud_eq, ud_ne, Int.add_zero, Int.reduceAdd]; omega)) rfl ?_
            refine v_call_t (cls := 0) (n := 50) xB_49 dX5_word_47 xO_49 iv_5_111 rfl (by first | omega | (simp only [sA_same, sA_s, ud_s, Int.reduceEq, if_true, if_false, ite_true, ite_false, ↓reduceIte, and_true, true_and, eq_self, Int.add_zero, Int.reduceAdd]; omega) | (simp (disch := omega) only [sA_same, sA_ne, ud_eq, ud_ne, Int.add_zero, Int.reduceAdd]; omega)) rfl rfl rfl ?_
            refine j_charAt (by omega) (Or.inl rfl) (sh_m20 _ _ _) (by simp only [Int.reduceNeg, Int.reduceSub, Int.reduceMul, Int.reduceAdd, Int.add_zero]; omega) (by simp only [Int.reduceNeg, Int.reduceSub, Int.reduceMul, Int.reduceAdd, Int.add_zero]; omega) ?_
            (try simp only [Int.reduceNeg, Int.reduceSub, Int.reduceMul, Int.reduceAdd, Int.add_zero])
            refine v_ic_ne (t := 59) (n := 53) xB_49 dX5_word_50 (by decide) rfl rfl (fun g6 => ?_) (fun g6 => ?_)
            · refine v_iload_n (n := 60) xB_49 dX5_word_59 rfl rfl ?_
              refine v_iconst (n := 61) xB_49 dX5_word_60 ⟨by decide, by decide⟩ rfl ?_
              refine v_ic_ne_y (t := 76) xB_49 dX5_word_61 (by decide) rfl (by decide) ?_
              refine v_iload_n (n := 77) xB_49 dX5_word_76 rfl rfl ?_
              refine v_iload_n (n := 78) xB_49 dX5_word_77 rfl rfl ?_
              refine v_max (n := 81) xB_49 dX5_word_78 xO_49 sp_5_81 rfl rfl ?_
              refine v_istore_n1 (n := 82) xB_49 dX5_word_81 rfl rfl ?_
              refine v_iinc2 (n := 85) xB_49 dX5_word_82 rfl (by first | omega | (simp only [sA_same, sA_s, ud_s, Int.reduceEq, if_true, if_false, ite_true, ite_false, ↓reduceIte, and_true, true_and, eq_self, Int.add_zero, Int.reduceAdd]; omega) | (simp (disch := omega) only [sA_same, sA_ne, ud_eq, ud_ne, Int.add_zero, Int.reduceAdd]; omega)) rfl ?_
              refine v_goto (t := 4) xB_49 dX5_word_85 (by decide) rfl ?_
              first
              | (have q : mt4 (m 54) (m 53 1) (m 53 2) 116 117 114 110 = 0 := by unfold mt4; rw [if_neg (c := nxt (m 54) (m 53 1) (m 53 2) = 116) (by omega)]
                 rw [q, if_neg (by decide)] at o1
                 exact vk_w4 hd hK hT (by split <;> omega) _ o1)
              | (have q : mt4 (m 54) (m 53 1) (m 53 2) 116 117 114 110 = 1 := by unfold mt4; rw [if_pos (c := nxt (m 54) (m 53 1) (m 53 2) = 116) (by omega), if_neg (c := nxt (m 54) (m 53 1) (m 53 2 + 1) = 117) (by omega)]
                 rw [q, if_neg (by decide)] at o1
                 exact vk_w4 hd hK hT (by split <;> omega) _ o1)
              | (have q : mt4 (m 54) (m 53 1) (m 53 2) 116 117 114 110 = 2 := by unfold mt4; rw [if_pos (c := nxt (m 54) (m 53 1) (m 53 2) = 116) (by omega), if_pos (c := nxt (m 54) (m 53 1) (m 53 2 + 1) = 117) (by omega), if_neg (c := nxt (m 54) (m 53 1) (m 53 2 + 2) = 114) (by omega)]
                 rw [q, if_neg (by decide)] at o1
                 exact vk_w4 hd hK hT (by split <;> omega) _ o1)
              | (have q : mt4 (m 54) (m 53 1) (m 53 2) 116 117 114 110 = 3 := by unfold mt4; rw [if_pos (c := nxt (m 54) (m 53 1) (m 53 2) = 116) (by omega), if_pos (c := nxt (m 54) (m 53 1) (m 53 2 + 1) = 117) (by omega), if_pos (c := nxt (m 54) (m 53 1) (m 53 2 + 2) = 114) (by omega), if_neg (c := nxt (m 54) (m 53 1) (m 53 2 + 3) = 110) (by omega)]
                 rw [q, if_neg (by decide)] at o1
                 exact vk_w4 hd hK hT (by split <;> omega) _ o1)
            · refine v_iinc3 (n := 56) xB_49 dX5_word_53 rfl (by first | omega | (simp only [sA_same, sA_s, ud_s, Int.reduceEq, if_true, if_false, ite_true, ite_false, ↓reduceIte, and_true, true_and, eq_self, Int.add_zero, Int.reduceAdd]; omega) | (simp (disch := omega) only [sA_same, sA_ne, ud_eq, ud_ne, Int.add_zero, Int.reduceAdd]; omega)) rfl ?_
              refine v_goto (t := 11) xB_49 dX5_word_56 (by decide) rfl ?_
              refine v_iload_n (n := 12) xB_49 dX5_word_11 rfl rfl ?_
              refine v_iconst (n := 13) xB_49 dX5_word_12 ⟨by decide, by decide⟩ rfl ?_
              refine v_ic_ge_n (n := 16) xB_49 dX5_word_13 (by decide) rfl (by decide) ?_
              refine v_aload_n (n := 17) xB_49 dX5_word_16 rfl rfl ?_
              refine v_gf_i (n := 20) (kz := 2) xB_49 dX5_word_17 xO_49 fl_5_28 fg_5_2 rfl (sh_53 _ _ _) rfl rfl ?_
              refine v_iload_n (n := 21) xB_49 dX5_word_20 rfl rfl ?_
              refine v_iadd (n := 22) xB_49 dX5_word_21 (by first | omega | (simp only [sA_same, sA_s, ud_s, Int.reduceEq, if_true, if_false, ite_true, ite_false, ↓reduceIte, and_true, true_and, eq_self, Int.add_zero, Int.reduceAdd]; omega) | (simp (disch := omega) only [sA_same, sA_ne, ud_eq, ud_ne, Int.add_zero, Int.reduceAdd]; omega)) rfl ?_
              refine v_aload_n (n := 23) xB_49 dX5_word_22 rfl rfl ?_
              refine v_gf_i (n := 26) (kz := 1) xB_49 dX5_word_23 xO_49 fl_5_59 fg_5_1 rfl (sh_53 _ _ _) rfl rfl ?_
              refine v_ic_ge (t := 59) (n := 29) xB_49 dX5_word_26 (by decide) rfl rfl (fun g7 => ?_) (fun g7 => ?_)
              · refine v_iload_n (n := 60) xB_49 dX5_word_59 rfl rfl ?_
                refine v_iconst (n := 61) xB_49 dX5_word_60 ⟨by decide, by decide⟩ rfl ?_
                refine v_ic_ne_y (t := 76) xB_49 dX5_word_61 (by decide) rfl (by decide) ?_
                refine v_iload_n (n := 77) xB_49 dX5_word_76 rfl rfl ?_
                refine v_iload_n (n := 78) xB_49 dX5_word_77 rfl rfl ?_
                refine v_max (n := 81) xB_49 dX5_word_78 xO_49 sp_5_81 rfl rfl ?_
                refine v_istore_n1 (n := 82) xB_49 dX5_word_81 rfl rfl ?_
                refine v_iinc2 (n := 85) xB_49 dX5_word_82 rfl (by first | omega | (simp only [sA_same, sA_s, ud_s, Int.reduceEq, if_true, if_false, ite_true, ite_false, ↓reduceIte, and_true, true_and, eq_self, Int.add_zero, Int.reduceAdd]; omega) | (simp (disch := omega) only [sA_same, sA_ne, ud_eq, ud_ne, Int.add_zero, Int.reduceAdd]; omega)) rfl ?_
                refine v_goto (t := 4) xB_49 dX5_word_85 (by decide) rfl ?_
                first
                | (have q : mt4 (m 54) (m 53 1) (m 53 2) 116 117 114 110 = 0 := by unfold mt4; rw [if_neg (c := nxt (m 54) (m 53 1) (m 53 2) = 116) (by omega)]
                   rw [q, if_neg (by decide)] at o1
                   exact vk_w4 hd hK hT (by split <;> omega) _ o1)
                | (have q : mt4 (m 54) (m 53 1) (m 53 2) 116 117 114 110 = 1 := by unfold mt4; rw [if_pos (c := nxt (m 54) (m 53 1) (m 53 2) = 116) (by omega), if_neg (c := nxt (m 54) (m 53 1) (m 53 2 + 1) = 117) (by omega)]
                   rw [q, if_neg (by decide)] at o1
                   exact vk_w4 hd hK hT (by split <;> omega) _ o1)
                | (have q : mt4 (m 54) (m 53 1) (m 53 2) 116 117 114 110 = 2 := by unfold mt4; rw [if_pos (c := nxt (m 54) (m 53 1) (m 53 2) = 116) (by omega), if_pos (c := nxt (m 54) (m 53 1) (m 53 2 + 1) = 117) (by omega), if_neg (c := nxt (m 54) (m 53 1) (m 53 2 + 2) = 114) (by omega)]
                   rw [q, if_neg (by decide)] at o1
                   exact vk_w4 hd hK hT (by split <;> omega) _ o1)
                | (have q : mt4 (m 54) (m 53 1) (m 53 2) 116 117 114 110 = 3 := by unfold mt4; rw [if_pos (c := nxt (m 54) (m 53 1) (m 53 2) = 116) (by omega), if_pos (c := nxt (m 54) (m 53 1) (m 53 2 + 1) = 117) (by omega), if_pos (c := nxt (m 54) (m 53 1) (m 53 2 + 2) = 114) (by omega), if_neg (c := nxt (m 54) (m 53 1) (m 53 2 + 3) = 110) (by omega)]
                   rw [q, if_neg (by decide)] at o1
                   exact vk_w4 hd hK hT (by split <;> omega) _ o1)
              · refine v_aload_n (n := 30) xB_49 dX5_word_29 rfl rfl ?_
                refine v_gf_s (n := 33) (kz := 0) xB_49 dX5_word_30 xO_49 fl_5_9 fg_5_0 (sh_53 _ _ _) rfl st_53_0 rfl ?_
                refine v_aload_n (n := 34) xB_49 dX5_word_33 rfl rfl ?_
                refine v_gf_i (n := 37) (kz := 2) xB_49 dX5_word_34 xO_49 fl_5_28 fg_5_2 rfl (sh_53 _ _ _) rfl rfl ?_
                refine v_iload_n (n := 38) xB_49 dX5_word_37 rfl rfl ?_
                refine v_iadd (n := 39) xB_49 dX5_word_38 (by first | omega | (simp only [sA_same, sA_s, ud_s, Int.reduceEq, if_true, if_false, ite_true, ite_false, ↓reduceIte, and_true, true_and, eq_self, Int.add_zero, Int.reduceAdd]; omega) | (simp (disch := omega) only [sA_same, sA_ne, ud_eq, ud_ne, Int.add_zero, Int.reduceAdd]; omega)) rfl ?_
                refine v_iaload (n := 40) (lz := 100) xB_49 dX5_word_39 (sh_54 _ _ _) rfl (by first | omega | (simp only [sA_same, sA_s, ud_s, Int.reduceEq, if_true, if_false, ite_true, ite_false, ↓reduceIte, and_true, true_and, eq_self, Int.add_zero, Int.reduceAdd]; omega) | (simp (disch := omega) only [sA_same, sA_ne, ud_eq, ud_ne, Int.add_zero, Int.reduceAdd]; omega)) rfl ?_
                refine v_ldc_r (n := 42) xB_49 dX5_word_40 xO_49 lc_5_109 rfl ?_
                refine v_iload_n (n := 43) xB_49 dX5_word_42 rfl rfl ?_
                refine v_iconst (n := 44) xB_49 dX5_word_43 ⟨by decide, by decide⟩ rfl ?_
                refine v_imul (n := 45) xB_49 dX5_word_44 (by first | omega | (simp only [sA_same, sA_s, ud_s, Int.reduceEq, if_true, if_false, ite_true, ite_false, ↓reduceIte, and_true, true_and, eq_self, Int.add_zero, Int.reduceAdd]; omega) | (simp (disch := omega) only [sA_same, sA_ne, ud_eq, ud_ne, Int.add_zero, Int.reduceAdd]; omega)) rfl ?_
                refine v_iload_n (n := 46) xB_49 dX5_word_45 rfl rfl ?_
                refine v_iadd (n := 47) xB_49 dX5_word_46 (by first | omega | (simp only [sA_same, sA_s, ud_s, Int.reduceEq, if_true, if_false, ite_true, ite_false, ↓reduceIte, and_true, true_and, eq_self, Int.add_zero, Int.reduceAdd]; omega) | (simp (disch := omega) only [sA_same, sA_ne, ud_eq, ud_ne, Int.add_zero, Int.reduceAdd]; omega)) rfl ?_
                refine v_call_t (cls := 0) (n := 50) xB_49 dX5_word_47 xO_49 iv_5_111 rfl (by first | omega | (simp only [sA_same, sA_s, ud_s, Int.reduceEq, if_true, if_false, ite_true, ite_false, ↓reduceIte, and_true, true_and, eq_self, Int.add_zero, Int.reduceAdd]; omega) | (simp (disch := omega) only [sA_same, sA_ne, ud_eq, ud_ne, Int.add_zero, Int.reduceAdd]; omega)) rfl rfl rfl ?_
                refine j_charAt (by omega) (Or.inl rfl) (sh_m20 _ _ _) (by simp only [Int.reduceNeg, Int.reduceSub, Int.reduceMul, Int.reduceAdd, Int.add_zero]; omega) (by simp only [Int.reduceNeg, Int.reduceSub, Int.reduceMul, Int.reduceAdd, Int.add_zero]; omega) ?_
                (try simp only [Int.reduceNeg, Int.reduceSub, Int.reduceMul, Int.reduceAdd, Int.add_zero])
                refine v_ic_ne (t := 59) (n := 53) xB_49 dX5_word_50 (by decide) rfl rfl (fun g8 => ?_) (fun g8 => ?_)
                · refine v_iload_n (n := 60) xB_49 dX5_word_59 rfl rfl ?_
                  refine v_iconst (n := 61) xB_49 dX5_word_60 ⟨by decide, by decide⟩ rfl ?_
                  refine v_ic_ne_y (t := 76) xB_49 dX5_word_61 (by decide) rfl (by decide) ?_
                  refine v_iload_n (n := 77) xB_49 dX5_word_76 rfl rfl ?_
                  refine v_iload_n (n := 78) xB_49 dX5_word_77 rfl rfl ?_
                  refine v_max (n := 81) xB_49 dX5_word_78 xO_49 sp_5_81 rfl rfl ?_
                  refine v_istore_n1 (n := 82) xB_49 dX5_word_81 rfl rfl ?_
                  refine v_iinc2 (n := 85) xB_49 dX5_word_82 rfl (by first | omega | (simp only [sA_same, sA_s, ud_s, Int.reduceEq, if_true, if_false, ite_true, ite_false, ↓reduceIte, and_true, true_and, eq_self, Int.add_zero, Int.reduceAdd]; omega) | (simp (disch := omega) only [sA_same, sA_ne, ud_eq, ud_ne, Int.add_zero, Int.reduceAdd]; omega)) rfl ?_
                  refine v_goto (t := 4) xB_49 dX5_word_85 (by decide) rfl ?_
                  first
                  | (have q : mt4 (m 54) (m 53 1) (m 53 2) 116 117 114 110 = 0 := by unfold mt4; rw [if_neg (c := nxt (m 54) (m 53 1) (m 53 2) = 116) (by omega)]
                     rw [q, if_neg (by decide)] at o1
                     exact vk_w4 hd hK hT (by split <;> omega) _ o1)
                  | (have q : mt4 (m 54) (m 53 1) (m 53 2) 116 117 114 110 = 1 := by unfold mt4; rw [if_pos (c := nxt (m 54) (m 53 1) (m 53 2) = 116) (by omega), if_neg (c := nxt (m 54) (m 53 1) (m 53 2 + 1) = 117) (by omega)]
                     rw [q, if_neg (by decide)] at o1
                     exact vk_w4 hd hK hT (by split <;> omega) _ o1)
                  | (have q : mt4 (m 54) (m 53 1) (m 53 2) 116 117 114 110 = 2 := by unfold mt4; rw [if_pos (c := nxt (m 54) (m 53 1) (m 53 2) = 116) (by omega), if_pos (c := nxt (m 54) (m 53 1) (m 53 2 + 1) = 117) (by omega), if_neg (c := nxt (m 54) (m 53 1) (m 53 2 + 2) = 114) (by omega)]
                     rw [q, if_neg (by decide)] at o1
                     exact vk_w4 hd hK hT (by split <;> omega) _ o1)
                  | (have q : mt4 (m 54) (m 53 1) (m 53 2) 116 117 114 110 = 3 := by unfold mt4; rw [if_pos (c := nxt (m 54) (m 53 1) (m 53 2) = 116) (by omega), if_pos (c := nxt (m 54) (m 53 1) (m 53 2 + 1) = 117) (by omega), if_pos (c := nxt (m 54) (m 53 1) (m 53 2 + 2) = 114) (by omega), if_neg (c := nxt (m 54) (m 53 1) (m 53 2 + 3) = 110) (by omega)]
                     rw [q, if_neg (by decide)] at o1
                     exact vk_w4 hd hK hT (by split <;> omega) _ o1)
                · refine v_iinc3 (n := 56) xB_49 dX5_word_53 rfl (by first | omega | (simp only [sA_same, sA_s, ud_s, Int.reduceEq, if_true, if_false, ite_true, ite_false, ↓reduceIte, and_true, true_and, eq_self, Int.add_zero, Int.reduceAdd]; omega) | (simp (disch := omega) only [sA_same, sA_ne, ud_eq, ud_ne, Int.add_zero, Int.reduceAdd]; omega)) rfl ?_
                  refine v_goto (t := 11) xB_49 dX5_word_56 (by decide) rfl ?_
                  refine v_iload_n (n := 12) xB_49 dX5_word_11 rfl rfl ?_
                  refine v_iconst (n := 13) xB_49 dX5_word_12 ⟨by decide, by decide⟩ rfl ?_
                  refine v_ic_ge_y (t := 59) xB_49 dX5_word_13 (by decide) rfl (by decide) ?_
                  refine v_iload_n (n := 60) xB_49 dX5_word_59 rfl rfl ?_
                  refine v_iconst (n := 61) xB_49 dX5_word_60 ⟨by decide, by decide⟩ rfl ?_
                  refine v_ic_ne_n (n := 64) xB_49 dX5_word_61 (by decide) rfl (by decide) ?_
                  refine v_aload_n (n := 65) xB_49 dX5_word_64 rfl rfl ?_
                  refine v_dup (n := 66) xB_49 dX5_word_65 rfl rfl ?_
                  refine v_gf_i (n := 69) (kz := 2) xB_49 dX5_word_66 xO_49 fl_5_28 fg_5_2 rfl (sh_53 _ _ _) rfl rfl ?_
                  refine v_iconst (n := 70) xB_49 dX5_word_69 ⟨by decide, by decide⟩ rfl ?_
                  refine v_iadd (n := 71) xB_49 dX5_word_70 (by first | omega | (simp only [sA_same, sA_s, ud_s, Int.reduceEq, if_true, if_false, ite_true, ite_false, ↓reduceIte, and_true, true_and, eq_self, Int.add_zero, Int.reduceAdd]; omega) | (simp (disch := omega) only [sA_same, sA_ne, ud_eq, ud_ne, Int.add_zero, Int.reduceAdd]; omega)) rfl ?_
                  refine v_pf_i (n := 74) (kz := 2) xB_49 dX5_word_71 xO_49 fl_5_28 fg_5_2 (Or.inl fn_5_2) (sh_53 _ _ _) (by decide) rfl rfl ?_
                  refine v_iload_n (n := 75) xB_49 dX5_word_74 rfl rfl ?_
                  refine v_ireturn0 xB_49 dX5_word_75 xK_49 ?_
                  have q : mt4 (m 54) (m 53 1) (m 53 2) 116 117 114 110 = 4 := by unfold mt4; rw [if_pos (c := nxt (m 54) (m 53 1) (m 53 2) = 116) (by omega), if_pos (c := nxt (m 54) (m 53 1) (m 53 2 + 1) = 117) (by omega), if_pos (c := nxt (m 54) (m 53 1) (m 53 2 + 2) = 114) (by omega), if_pos (c := nxt (m 54) (m 53 1) (m 53 2 + 3) = 110) (by omega)]
                  rw [q, if_pos rfl] at o1
                  exact o1
set_option maxHeartbeats 1000000 in
theorem vk_w2 {d : Nat} {m : PM} {dy : List (Nat × Nat)} {L : Nat} {Q : Option PV → PS → Prop} {mo : Int} (hd : 5 ≤ d) (hK : KT m) (hT : (0 ≤ m 53 1 ∧ m 53 1 ≤ 100) ∧ (0 ≤ m 53 2 ∧ m 53 2 ≤ m 53 1)) (hm : 0 ≤ mo ∧ mo ≤ 4) (x3 : Option PV) (o1 : Q (some (.inl (wdR (m 54) (m 53 1) (m 53 2) 2 mo).1)) (setA m 53 (ud (m 53) 2 (wdR (m 54) (m 53 1) (m 53 2) 2 mo).2), (none, (dy, L)))) : V d 49 (4, ([some (.inr (.inr 53)), some (.inl mo), some (.inl 2), x3], ([], (m, (none, (dy, L)))))) Q := by
  have l0 : m (-20) 8 = 115 := hK.1 8 (by decide)
  have x0 : m 53 2 < m 53 1 → nxt (m 54) (m 53 1) (m 53 2) = m 54 (m 53 2) := fun h => nx_t h
  have y0 : ¬ m 53 2 < m 53 1 → nxt (m 54) (m 53 1) (m 53 2) = -1 := fun h => nx_f h
  have l1 : m (-20) 9 = 107 := hK.1 9 (by decide)
  have x1 : m 53 2 + 1 < m 53 1 → nxt (m 54) (m 53 1) (m 53 2 + 1) = m 54 (m 53 2 + 1) := fun h => nx_t h
  have y1 : ¬ m 53 2 + 1 < m 53 1 → nxt (m 54) (m 53 1) (m 53 2 + 1) = -1 := fun h => nx_f h
  have l2 : m (-20) 10 = 105 := hK.1 10 (by decide)
  have x2 : m 53 2 + 2 < m 53 1 → nxt (m 54) (m 53 1) (m 53 2 + 2) = m 54 (m 53 2 + 2) := fun h => nx_t h
  have y2 : ¬ m 53 2 + 2 < m 53 1 → nxt (m 54) (m 53 1) (m 53 2 + 2) = -1 := fun h => nx_f h
  have l3 : m (-20) 11 = 112 := hK.1 11 (by decide)
  have x3 : m 53 2 + 3 < m 53 1 → nxt (m 54) (m 53 1) (m 53 2 + 3) = m 54 (m 53 2 + 3) := fun h => nx_t h
  have y3 : ¬ m 53 2 + 3 < m 53 1 → nxt (m 54) (m 53 1) (m 53 2 + 3) = -1 := fun h => nx_f h
  have hw : wdR (m 54) (m 53 1) (m 53 2) 2 mo = if mt4 (m 54) (m 53 1) (m 53 2) 115 107 105 112 = 4 then (2, m 53 2 + 4) else wdR (m 54) (m 53 1) (m 53 2) 1 (if mo < mt4 (m 54) (m 53 1) (m 53 2) 115 107 105 112 then mt4 (m 54) (m 53 1) (m 53 2) 115 107 105 112 else mo) := by rw [← mw_2]; rfl
  rw [hw] at o1
  clear hw
  refine v_iload_n (n := 5) xB_49 dX5_word_4 rfl rfl ?_
  refine v_iconst (n := 6) xB_49 dX5_word_5 ⟨by decide, by decide⟩ rfl ?_
  refine v_ic_ge_n (n := 9) xB_49 dX5_word_6 (by decide) rfl (by decide) ?_
  refine v_iconst (n := 10) xB_49 dX5_word_9 ⟨by decide, by decide⟩ rfl ?_
  refine v_istore_n3 (n := 11) xB_49 dX5_word_10 rfl rfl ?_
  refine v_iload_n (n := 12) xB_49 dX5_word_11 rfl rfl ?_
  refine v_iconst (n := 13) xB_49 dX5_word_12 ⟨by decide, by decide⟩ rfl ?_
  refine v_ic_ge_n (n := 16) xB_49 dX5_word_13 (by decide) rfl (by decide) ?_
  refine v_aload_n (n := 17) xB_49 dX5_word_16 rfl rfl ?_
  refine v_gf_i (n := 20) (kz := 2) xB_49 dX5_word_17 xO_49 fl_5_28 fg_5_2 rfl (sh_53 _ _ _) rfl rfl ?_
  refine v_iload_n (n := 21) xB_49 dX5_word_20 rfl rfl ?_
  refine v_iadd (n := 22) xB_49 dX5_word_21 (by first | omega | (simp only [sA_same, sA_s, ud_s, Int.reduceEq, if_true, if_false, ite_true, ite_false, ↓reduceIte, and_true, true_and, eq_self, Int.add_zero, Int.reduceAdd]; omega) | (simp (disch := omega) only [sA_same, sA_ne, ud_eq, ud_ne, Int.add_zero, Int.reduceAdd]; omega)) rfl ?_
  refine v_aload_n (n := 23) xB_49 dX5_word_22 rfl rfl ?_
  refine v_gf_i (n := 26) (kz := 1) xB_49 dX5_word_23 xO_49 fl_5_59 fg_5_1 rfl (sh_53 _ _ _) rfl rfl ?_
  refine v_ic_ge (t := 59) (n := 29) xB_49 dX5_word_26 (by decide) rfl rfl (fun g1 => ?_) (fun g1 => ?_)
  · refine v_iload_n (n := 60) xB_49 dX5_word_59 rfl rfl ?_
    refine v_iconst (n := 61) xB_49 dX5_word_60 ⟨by decide, by decide⟩ rfl ?_
    refine v_ic_ne_y (t := 76) xB_49 dX5_word_61 (by decide) rfl (by decide) ?_
    refine v_iload_n (n := 77) xB_49 dX5_word_76 rfl rfl ?_
    refine v_iload_n (n := 78) xB_49 dX5_word_77 rfl rfl ?_
    refine v_max (n := 81) xB_49 dX5_word_78 xO_49 sp_5_81 rfl rfl ?_
    refine v_istore_n1 (n := 82) xB_49 dX5_word_81 rfl rfl ?_
    refine v_iinc2 (n := 85) xB_49 dX5_word_82 rfl (by first | omega | (simp only [sA_same, sA_s, ud_s, Int.reduceEq, if_true, if_false, ite_true, ite_false, ↓reduceIte, and_true, true_and, eq_self, Int.add_zero, Int.reduceAdd]; omega) | (simp (disch := omega) only [sA_same, sA_ne, ud_eq, ud_ne, Int.add_zero, Int.reduceAdd]; omega)) rfl ?_
    refine v_goto (t := 4) xB_49 dX5_word_85 (by decide) rfl ?_
    first
    | (have q : mt4 (m 54) (m 53 1) (m 53 2) 115 107 105 112 = 0 := by unfold mt4; rw [if_neg (c := nxt (m 54) (m 53 1) (m 53 2) = 115) (by omega)]
       rw [q, if_neg (by decide)] at o1
       exact vk_w3 hd hK hT (by split <;> omega) _ o1)
    | (have q : mt4 (m 54) (m 53 1) (m 53 2) 115 107 105 112 = 1 := by unfold mt4; rw [if_pos (c := nxt (m 54) (m 53 1) (m 53 2) = 115) (by omega), if_neg (c := nxt (m 54) (m 53 1) (m 53 2 + 1) = 107) (by omega)]
       rw [q, if_neg (by decide)] at o1
       exact vk_w3 hd hK hT (by split <;> omega) _ o1)
    | (have q : mt4 (m 54) (m 53 1) (m 53 2) 115 107 105 112 = 2 := by unfold mt4; rw [if_pos (c := nxt (m 54) (m 53 1) (m 53 2) = 115) (by omega), if_pos (c := nxt (m 54) (m 53 1) (m 53 2 + 1) = 107) (by omega), if_neg (c := nxt (m 54) (m 53 1) (m 53 2 + 2) = 105) (by omega)]
       rw [q, if_neg (by decide)] at o1
       exact vk_w3 hd hK hT (by split <;> omega) _ o1)
    | (have q : mt4 (m 54) (m 53 1) (m 53 2) 115 107 105 112 = 3 := by unfold mt4; rw [if_pos (c := nxt (m 54) (m 53 1) (m 53 2) = 115) (by omega), if_pos (c := nxt (m 54) (m 53 1) (m 53 2 + 1) = 107) (by omega), if_pos (c := nxt (m 54) (m 53 1) (m 53 2 + 2) = 105) (by omega), if_neg (c := nxt (m 54) (m 53 1) (m 53 2 + 3) = 112) (by omega)]
       rw [q, if_neg (by decide)] at o1
       exact vk_w3 hd hK hT (by split <;> omega) _ o1)
  · refine v_aload_n (n := 30) xB_49 dX5_word_29 rfl rfl ?_
    refine v_gf_s (n := 33) (kz := 0) xB_49 dX5_word_30 xO_49 fl_5_9 fg_5_0 (sh_53 _ _ _) rfl st_53_0 rfl ?_
    refine v_aload_n (n := 34) xB_49 dX5_word_33 rfl rfl ?_
    refine v_gf_i (n := 37) (kz := 2) xB_49 dX5_word_34 xO_49 fl_5_28 fg_5_2 rfl (sh_53 _ _ _) rfl rfl ?_
    refine v_iload_n (n := 38) xB_49 dX5_word_37 rfl rfl ?_
    refine v_iadd (n := 39) xB_49 dX5_word_38 (by first | omega | (simp only [sA_same, sA_s, ud_s, Int.reduceEq, if_true, if_false, ite_true, ite_false, ↓reduceIte, and_true, true_and, eq_self, Int.add_zero, Int.reduceAdd]; omega) | (simp (disch := omega) only [sA_same, sA_ne, ud_eq, ud_ne, Int.add_zero, Int.reduceAdd]; omega)) rfl ?_
    refine v_iaload (n := 40) (lz := 100) xB_49 dX5_word_39 (sh_54 _ _ _) rfl (by first | omega | (simp only [sA_same, sA_s, ud_s, Int.reduceEq, if_true, if_false, ite_true, ite_false, ↓reduceIte, and_true, true_and, eq_self, Int.add_zero, Int.reduceAdd]; omega) | (simp (disch := omega) only [sA_same, sA_ne, ud_eq, ud_ne, Int.add_zero, Int.reduceAdd]; omega)) rfl ?_
    refine v_ldc_r (n := 42) xB_49 dX5_word_40 xO_49 lc_5_109 rfl ?_
    refine v_iload_n (n := 43) xB_49 dX5_word_42 rfl rfl ?_
    refine v_iconst (n := 44) xB_49 dX5_word_43 ⟨by decide, by decide⟩ rfl ?_
    refine v_imul (n := 45) xB_49 dX5_word_44 (by first | omega | (simp only [sA_same, sA_s, ud_s, Int.reduceEq, if_true, if_false, ite_true, ite_false, ↓reduceIte, and_true, true_and, eq_self, Int.add_zero, Int.reduceAdd]; omega) | (simp (disch := omega) only [sA_same, sA_ne, ud_eq, ud_ne, Int.add_zero, Int.reduceAdd]; omega)) rfl ?_
    refine v_iload_n (n := 46) xB_49 dX5_word_45 rfl rfl ?_
    refine v_iadd (n := 47) xB_49 dX5_word_46 (by first | omega | (simp only [sA_same, sA_s, ud_s, Int.reduceEq, if_true, if_false, ite_true, ite_false, ↓reduceIte, and_true, true_and, eq_self, Int.add_zero, Int.reduceAdd]; omega) | (simp (disch := omega) only [sA_same, sA_ne, ud_eq, ud_ne, Int.add_zero, Int.reduceAdd]; omega)) rfl ?_
    refine v_call_t (cls := 0) (n := 50) xB_49 dX5_word_47 xO_49 iv_5_111 rfl (by first | omega | (simp only [sA_same, sA_s, ud_s, Int.reduceEq, if_true, if_false, ite_true, ite_false, ↓reduceIte, and_true, true_and, eq_self, Int.add_zero, Int.reduceAdd]; omega) | (simp (disch := omega) only [sA_same, sA_ne, ud_eq, ud_ne, Int.add_zero, Int.reduceAdd]; omega)) rfl rfl rfl ?_
    refine j_charAt (by omega) (Or.inl rfl) (sh_m20 _ _ _) (by simp only [Int.reduceNeg, Int.reduceSub, Int.reduceMul, Int.reduceAdd, Int.add_zero]; omega) (by simp only [Int.reduceNeg, Int.reduceSub, Int.reduceMul, Int.reduceAdd, Int.add_zero]; omega) ?_
    (try simp only [Int.reduceNeg, Int.reduceSub, Int.reduceMul, Int.reduceAdd, Int.add_zero])
    refine v_ic_ne (t := 59) (n := 53) xB_49 dX5_word_50 (by decide) rfl rfl (fun g2 => ?_) (fun g2 => ?_)
    · refine v_iload_n (n := 60) xB_49 dX5_word_59 rfl rfl ?_
      refine v_iconst (n := 61) xB_49 dX5_word_60 ⟨by decide, by decide⟩ rfl ?_
      refine v_ic_ne_y (t := 76) xB_49 dX5_word_61 (by decide) rfl (by decide) ?_
      refine v_iload_n (n := 77) xB_49 dX5_word_76 rfl rfl ?_
      refine v_iload_n (n := 78) xB_49 dX5_word_77 rfl rfl ?_
      refine v_max (n := 81) xB_49 dX5_word_78 xO_49 sp_5_81 rfl rfl ?_
      refine v_istore_n1 (n := 82) xB_49 dX5_word_81 rfl rfl ?_
      refine v_iinc2 (n := 85) xB_49 dX5_word_82 rfl (by first | omega | (simp only [sA_same, sA_s, ud_s, Int.reduceEq, if_true, if_false, ite_true, ite_false, ↓reduceIte, and_true, true_and, eq_self, Int.add_zero, Int.reduceAdd]; omega) | (simp (disch := omega) only [sA_same, sA_ne, ud_eq, ud_ne, Int.add_zero, Int.reduceAdd]; omega)) rfl ?_
      refine v_goto (t := 4) xB_49 dX5_word_85 (by decide) rfl ?_
      first
      | (have q : mt4 (m 54) (m 53 1) (m 53 2) 115 107 105 112 = 0 := by unfold mt4; rw [if_neg (c := nxt (m 54) (m 53 1) (m 53 2) = 115) (by omega)]
         rw [q, if_neg (by decide)] at o1
         exact vk_w3 hd hK hT (by split <;> omega) _ o1)
      | (have q : mt4 (m 54) (m 53 1) (m 53 2) 115 107 105 112 = 1 := by unfold mt4; rw [if_pos (c := nxt (m 54) (m 53 1) (m 53 2) = 115) (by omega), if_neg (c := nxt (m 54) (m 53 1) (m 53 2 + 1) = 107) (by omega)]
         rw [q, if_neg (by decide)] at o1
         exact vk_w3 hd hK hT (by split <;> omega) _ o1)
      | (have q : mt4 (m 54) (m 53 1) (m 53 2) 115 107 105 112 = 2 := by unfold mt4; rw [if_pos (c := nxt (m 54) (m 53 1) (m 53 2) = 115) (by omega), if_pos (c := nxt (m 54) (m 53 1) (m 53 2 + 1) = 107) (by omega), if_neg (c := nxt (m 54) (m 53 1) (m 53 2 + 2) = 105) (by omega)]
         rw [q, if_neg (by decide)] at o1
         exact vk_w3 hd hK hT (by split <;> omega) _ o1)
      | (have q : mt4 (m 54) (m 53 1) (m 53 2) 115 107 105 112 = 3 := by unfold mt4; rw [if_pos (c := nxt (m 54) (m 53 1) (m 53 2) = 115) (by omega), if_pos (c := nxt (m 54) (m 53 1) (m 53 2 + 1) = 107) (by omega), if_pos (c := nxt (m 54) (m 53 1) (m 53 2 + 2) = 105) (by omega), if_neg (c := nxt (m 54) (m 53 1) (m 53 2 + 3) = 112) (by omega)]
         rw [q, if_neg (by decide)] at o1
         exact vk_w3 hd hK hT (by split <;> omega) _ o1)
    · refine v_iinc3 (n := 56) xB_49 dX5_word_53 rfl (by first | omega | (simp only [sA_same, sA_s, ud_s, Int.reduceEq, if_true, if_false, ite_true, ite_false, ↓reduceIte, and_true, true_and, eq_self, Int.add_zero, Int.reduceAdd]; omega) | (simp (disch := omega) only [sA_same, sA_ne, ud_eq, ud_ne, Int.add_zero, Int.reduceAdd]; omega)) rfl ?_
      refine v_goto (t := 11) xB_49 dX5_word_56 (by decide) rfl ?_
      refine v_iload_n (n := 12) xB_49 dX5_word_11 rfl rfl ?_
      refine v_iconst (n := 13) xB_49 dX5_word_12 ⟨by decide, by decide⟩ rfl ?_
      refine v_ic_ge_n (n := 16) xB_49 dX5_word_13 (by decide) rfl (by decide) ?_
      refine v_aload_n (n := 17) xB_49 dX5_word_16 rfl rfl ?_
      refine v_gf_i (n := 20) (kz := 2) xB_49 dX5_word_17 xO_49 fl_5_28 fg_5_2 rfl (sh_53 _ _ _) rfl rfl ?_
      refine v_iload_n (n := 21) xB_49 dX5_word_20 rfl rfl ?_
      refine v_iadd (n := 22) xB_49 dX5_word_21 (by first | omega | (simp only [sA_same, sA_s, ud_s, Int.reduceEq, if_true, if_false, ite_true, ite_false, ↓reduceIte, and_true, true_and, eq_self, Int.add_zero, Int.reduceAdd]; omega) | (simp (disch := omega) only [sA_same, sA_ne, ud_eq, ud_ne, Int.add_zero, Int.reduceAdd]; omega)) rfl ?_
      refine v_aload_n (n := 23) xB_49 dX5_word_22 rfl rfl ?_
      refine v_gf_i (n := 26) (kz := 1) xB_49 dX5_word_23 xO_49 fl_5_59 fg_5_1 rfl (sh_53 _ _ _) rfl rfl ?_
      refine v_ic_ge (t := 59) (n := 29) xB_49 dX5_word_26 (by decide) rfl rfl (fun g3 => ?_) (fun g3 => ?_)
      · refine v_iload_n (n := 60) xB_49 dX5_word_59 rfl rfl ?_
        refine v_iconst (n := 61) xB_49 dX5_word_60 ⟨by decide, by decide⟩ rfl ?_
        refine v_ic_ne_y (t := 76) xB_49 dX5_word_61 (by decide) rfl (by decide) ?_
        refine v_iload_n (n := 77) xB_49 dX5_word_76 rfl rfl ?_
        refine v_iload_n (n := 78) xB_49 dX5_word_77 rfl rfl ?_
        refine v_max (n := 81) xB_49 dX5_word_78 xO_49 sp_5_81 rfl rfl ?_
        refine v_istore_n1 (n := 82) xB_49 dX5_word_81 rfl rfl ?_
        refine v_iinc2 (n := 85) xB_49 dX5_word_82 rfl (by first | omega | (simp only [sA_same, sA_s, ud_s, Int.reduceEq, if_true, if_false, ite_true, ite_false, ↓reduceIte, and_true, true_and, eq_self, Int.add_zero, Int.reduceAdd]; omega) | (simp (disch := omega) only [sA_same, sA_ne, ud_eq, ud_ne, Int.add_zero, Int.reduceAdd]; omega)) rfl ?_
        refine v_goto (t := 4) xB_49 dX5_word_85 (by decide) rfl ?_
        first
        | (have q : mt4 (m 54) (m 53 1) (m 53 2) 115 107 105 112 = 0 := by unfold mt4; rw [if_neg (c := nxt (m 54) (m 53 1) (m 53 2) = 115) (by omega)]
           rw [q, if_neg (by decide)] at o1
           exact vk_w3 hd hK hT (by split <;> omega) _ o1)
        | (have q : mt4 (m 54) (m 53 1) (m 53 2) 115 107 105 112 = 1 := by unfold mt4; rw [if_pos (c := nxt (m 54) (m 53 1) (m 53 2) = 115) (by omega), if_neg (c := nxt (m 54) (m 53 1) (m 53 2 + 1) = 107) (by omega)]
           rw [q, if_neg (by decide)] at o1
           exact vk_w3 hd hK hT (by split <;> omega) _ o1)
        | (have q : mt4 (m 54) (m 53 1) (m 53 2) 115 107 105 112 = 2 := by unfold mt4; rw [if_pos (c := nxt (m 54) (m 53 1) (m 53 2) = 115) (by omega), if_pos (c := nxt (m 54) (m 53 1) (m 53 2 + 1) = 107) (by omega), if_neg (c := nxt (m 54) (m 53 1) (m 53 2 + 2) = 105) (by omega)]
           rw [q, if_neg (by decide)] at o1
           exact vk_w3 hd hK hT (by split <;> omega) _ o1)
        | (have q : mt4 (m 54) (m 53 1) (m 53 2) 115 107 105 112 = 3 := by unfold mt4; rw [if_pos (c := nxt (m 54) (m 53 1) (m 53 2) = 115) (by omega), if_pos (c := nxt (m 54) (m 53 1) (m 53 2 + 1) = 107) (by omega), if_pos (c := nxt (m 54) (m 53 1) (m 53 2 + 2) = 105) (by omega), if_neg (c := nxt (m 54) (m 53 1) (m 53 2 + 3) = 112) (by omega)]
           rw [q, if_neg (by decide)] at o1
           exact vk_w3 hd hK hT (by split <;> omega) _ o1)
      · refine v_aload_n (n := 30) xB_49 dX5_word_29 rfl rfl ?_
        refine v_gf_s (n := 33) (kz := 0) xB_49 dX5_word_30 xO_49 fl_5_9 fg_5_0 (sh_53 _ _ _) rfl st_53_0 rfl ?_
        refine v_aload_n (n := 34) xB_49 dX5_word_33 rfl rfl ?_
        refine v_gf_i (n := 37) (kz := 2) xB_49 dX5_word_34 xO_49 fl_5_28 fg_5_2 rfl (sh_53 _ _ _) rfl rfl ?_
        refine v_iload_n (n := 38) xB_49 dX5_word_37 rfl rfl ?_
        refine v_iadd (n := 39) xB_49 dX5_word_38 (by first | omega | (simp only [sA_same, sA_s, ud_s, Int.reduceEq, if_true, if_false, ite_true, ite_false, ↓reduceIte, and_true, true_and, eq_self, Int.add_zero, Int.reduceAdd]; omega) | (simp (disch := omega) only [sA_same, sA_ne, ud_eq, ud_ne, Int.add_zero, Int.reduceAdd]; omega)) rfl ?_
        refine v_iaload (n := 40) (lz := 100) xB_49 dX5_word_39 (sh_54 _ _ _) rfl (by first | omega | (simp only [sA_same, sA_s, ud_s, Int.reduceEq, if_true, if_false, ite_true, ite_false, ↓reduceIte, and_true, true_and, eq_self, Int.add_zero, Int.reduceAdd]; omega) | (simp (disch := omega) only [sA_same, sA_ne, ud_eq, ud_ne, Int.add_zero, Int.reduceAdd]; omega)) rfl ?_
        refine v_ldc_r (n := 42) xB_49 dX5_word_40 xO_49 lc_5_109 rfl ?_
        refine v_iload_n (n := 43) xB_49 dX5_word_42 rfl rfl ?_
        refine v_iconst (n := 44) xB_49 dX5_word_43 ⟨by decide, by decide⟩ rfl ?_
        refine v_imul (n := 45) xB_49 dX5_word_44 (by first | omega | (simp only [sA_same, sA_s, ud_s, Int.reduceEq, if_true, if_false, ite_true, ite_false, ↓reduceIte, and_true, true_and, eq_self, Int.add_zero, Int.reduceAdd]; omega) | (simp (disch := omega) only [sA_same, sA_ne, ud_eq, ud_ne, Int.add_zero, Int.reduceAdd]; omega)) rfl ?_
        refine v_iload_n (n := 46) xB_49 dX5_word_45 rfl rfl ?_
        refine v_iadd (n := 47) xB_49 dX5_word_46 (by first | omega | (simp only [sA_same, sA_s, ud_s, Int.reduceEq, if_true, if_false, ite_true, ite_false, ↓reduceIte, and_true, true_and, eq_self, Int.add_zero, Int.reduceAdd]; omega) | (simp (disch := omega) only [sA_same, sA_ne, ud_eq, ud_ne, Int.add_zero, Int.reduceAdd]; omega)) rfl ?_
        refine v_call_t (cls := 0) (n := 50) xB_49 dX5_word_47 xO_49 iv_5_111 rfl (by first | omega | (simp only [sA_same, sA_s, ud_s, Int.reduceEq, if_true, if_false, ite_true, ite_false, ↓reduceIte, and_true, true_and, eq_self, Int.add_zero, Int.reduceAdd]; omega) | (simp (disch := omega) only [sA_same, sA_ne, ud_eq, ud_ne, Int.add_zero, Int.reduceAdd]; omega)) rfl rfl rfl ?_
        refine j_charAt (by omega) (Or.inl rfl) (sh_m20 _ _ _) (by simp only [Int.reduceNeg, Int.reduceSub, Int.reduceMul, Int.reduceAdd, Int.add_zero]; omega) (by simp only [Int.reduceNeg, Int.reduceSub, Int.reduceMul, Int.reduceAdd, Int.add_zero]; omega) ?_
        (try simp only [Int.reduceNeg, Int.reduceSub, Int.reduceMul, Int.reduceAdd, Int.add_zero])
        refine v_ic_ne (t := 59) (n := 53) xB_49 dX5_word_50 (by decide) rfl rfl (fun g4 => ?_) (fun g4 => ?_)
        · refine v_iload_n (n := 60) xB_49 dX5_word_59 rfl rfl ?_
          refine v_iconst (n := 61) xB_49 dX5_word_60 ⟨by decide, by decide⟩ rfl ?_
          refine v_ic_ne_y (t := 76) xB_49 dX5_word_61 (by decide) rfl (by decide) ?_
          refine v_iload_n (n := 77) xB_49 dX5_word_76 rfl rfl ?_
          refine v_iload_n (n := 78) xB_49 dX5_word_77 rfl rfl ?_
          refine v_max (n := 81) xB_49 dX5_word_78 xO_49 sp_5_81 rfl rfl ?_
          refine v_istore_n1 (n := 82) xB_49 dX5_word_81 rfl rfl ?_
          refine v_iinc2 (n := 85) xB_49 dX5_word_82 rfl (by first | omega | (simp only [sA_same, sA_s, ud_s, Int.reduceEq, if_true, if_false, ite_true, ite_false, ↓reduceIte, and_true, true_and, eq_self, Int.add_zero, Int.reduceAdd]; omega) | (simp (disch := omega) only [sA_same, sA_ne, ud_eq, ud_ne, Int.add_zero, Int.reduceAdd]; omega)) rfl ?_
          refine v_goto (t := 4) xB_49 dX5_word_85 (by decide) rfl ?_
          first
          | (have q : mt4 (m 54) (m 53 1) (m 53 2) 115 107 105 112 = 0 := by unfold mt4; rw [if_neg (c := nxt (m 54) (m 53 1) (m 53 2) = 115) (by omega)]
             rw [q, if_neg (by decide)] at o1
             exact vk_w3 hd hK hT (by split <;> omega) _ o1)
          | (have q : mt4 (m 54) (m 53 1) (m 53 2) 115 107 105 112 = 1 := by unfold mt4; rw [if_pos (c := nxt (m 54) (m 53 1) (m 53 2) = 115) (by omega), if_neg (c := nxt (m 54) (m 53 1) (m 53 2 + 1) = 107) (by omega)]
             rw [q, if_neg (by decide)] at o1
             exact vk_w3 hd hK hT (by split <;> omega) _ o1)
          | (have q : mt4 (m 54) (m 53 1) (m 53 2) 115 107 105 112 = 2 := by unfold mt4; rw [if_pos (c := nxt (m 54) (m 53 1) (m 53 2) = 115) (by omega), if_pos (c := nxt (m 54) (m 53 1) (m 53 2 + 1) = 107) (by omega), if_neg (c := nxt (m 54) (m 53 1) (m 53 2 + 2) = 105) (by omega)]
             rw [q, if_neg (by decide)] at o1
             exact vk_w3 hd hK hT (by split <;> omega) _ o1)
          | (have q : mt4 (m 54) (m 53 1) (m 53 2) 115 107 105 112 = 3 := by unfold mt4; rw [if_pos (c := nxt (m 54) (m 53 1) (m 53 2) = 115) (by omega), if_pos (c := nxt (m 54) (m 53 1) (m 53 2 + 1) = 107) (by omega), if_pos (c := nxt (m 54) (m 53 1) (m 53 2 + 2) = 105) (by omega), if_neg (c := nxt (m 54) (m 53 1) (m 53 2 + 3) = 112) (by omega)]
             rw [q, if_neg (by decide)] at o1
             exact vk_w3 hd hK hT (by split <;> omega) _ o1)
        · refine v_iinc3 (n := 56) xB_49 dX5_word_53 rfl (by first | omega | (simp only [sA_same, sA_s, ud_s, Int.reduceEq, if_true, if_false, ite_true, ite_false, ↓reduceIte, and_true, true_and, eq_self, Int.add_zero, Int.reduceAdd]; omega) | (simp (disch := omega) only [sA_same, sA_ne, ud_eq, ud_ne, Int.add_zero, Int.reduceAdd]; omega)) rfl ?_
          refine v_goto (t := 11) xB_49 dX5_word_56 (by decide) rfl ?_
          refine v_iload_n (n := 12) xB_49 dX5_word_11 rfl rfl ?_
          refine v_iconst (n := 13) xB_49 dX5_word_12 ⟨by decide, by decide⟩ rfl ?_
          refine v_ic_ge_n (n := 16) xB_49 dX5_word_13 (by decide) rfl (by decide) ?_
          refine v_aload_n (n := 17) xB_49 dX5_word_16 rfl rfl ?_
          refine v_gf_i (n := 20) (kz := 2) xB_49 dX5_word_17 xO_49 fl_5_28 fg_5_2 rfl (sh_53 _ _ _) rfl rfl ?_
          refine v_iload_n (n := 21) xB_49 dX5_word_20 rfl rfl ?_
          refine v_iadd (n := 22) xB_49 dX5_word_21 (by first | omega | (simp only [sA_same, sA_s, ud_s, Int.reduceEq, if_true, if_false, ite_true, ite_false, ↓reduceIte, and_true, true_and, eq_self, Int.add_zero, Int.reduceAdd]; omega) | (simp (disch := omega) only [sA_same, sA_ne, ud_eq, ud_ne, Int.add_zero, Int.reduceAdd]; omega)) rfl ?_
          refine v_aload_n (n := 23) xB_49 dX5_word_22 rfl rfl ?_
          refine v_gf_i (n := 26) (kz := 1) xB_49 dX5_word_23 xO_49 fl_5_59 fg_5_1 rfl (sh_53 _ _ _) rfl rfl ?_
          refine v_ic_ge (t := 59) (n := 29) xB_49 dX5_word_26 (by decide) rfl rfl (fun g5 => ?_) (fun g5 => ?_)
          · refine v_iload_n (n := 60) xB_49 dX5_word_59 rfl rfl ?_
            refine v_iconst (n := 61) xB_49 dX5_word_60 ⟨by decide, by decide⟩ rfl ?_
            refine v_ic_ne_y (t := 76) xB_49 dX5_word_61 (by decide) rfl (by decide) ?_
            refine v_iload_n (n := 77) xB_49 dX5_word_76 rfl rfl ?_
            refine v_iload_n (n := 78) xB_49 dX5_word_77 rfl rfl ?_
            refine v_max (n := 81) xB_49 dX5_word_78 xO_49 sp_5_81 rfl rfl ?_
            refine v_istore_n1 (n := 82) xB_49 dX5_word_81 rfl rfl ?_
            refine v_iinc2 (n := 85) xB_49 dX5_word_82 rfl (by first | omega | (simp only [sA_same, sA_s, ud_s, Int.reduceEq, if_true, if_false, ite_true, ite_false, ↓reduceIte, and_true, true_and, eq_self, Int.add_zero, Int.reduceAdd]; omega) | (simp (disch := omega) only [sA_same, sA_ne, ud_eq, ud_ne, Int.add_zero, Int.reduceAdd]; omega)) rfl ?_
            refine v_goto (t := 4) xB_49 dX5_word_85 (by decide) rfl ?_
            first
            | (have q : mt4 (m 54) (m 53 1) (m 53 2) 115 107 105 112 = 0 := by unfold mt4; rw [if_neg (c := nxt (m 54) (m 53 1) (m 53 2) = 115) (by omega)]
               rw [q, if_neg (by decide)] at o1
               exact vk_w3 hd hK hT (by split <;> omega) _ o1)
            | (have q : mt4 (m 54) (m 53 1) (m 53 2) 115 107 105 112 = 1 := by unfold mt4; rw [if_pos (c := nxt (m 54) (m 53 1) (m 53 2) = 115) (by omega), if_neg (c := nxt (m 54) (m 53 1) (m 53 2 + 1) = 107) (by omega)]
               rw [q, if_neg (by decide)] at o1
               exact vk_w3 hd hK hT (by split <;> omega) _ o1)
            | (have q : mt4 (m 54) (m 53 1) (m 53 2) 115 107 105 112 = 2 := by unfold mt4; rw [if_pos (c := nxt (m 54) (m 53 1) (m 53 2) = 115) (by omega), if_pos (c := nxt (m 54) (m 53 1) (m 53 2 + 1) = 107) (by omega), if_neg (c := nxt (m 54) (m 53 1) (m 53 2 + 2) = 105) (by omega)]
               rw [q, if_neg (by decide)] at o1
               exact vk_w3 hd hK hT (by split <;> omega) _ o1)
            | (have q : mt4 (m 54) (m 53 1) (m 53 2) 115 107 105 112 = 3 := by unfold mt4; rw [if_pos (c := nxt (m 54) (m 53 1) (m 53 2) = 115) (by omega), if_pos (c := nxt (m 54) (m 53 1) (m 53 2 + 1) = 107) (by omega), if_pos (c := nxt (m 54) (m 53 1) (m 53 2 + 2) = 105) (by omega), if_neg (c := nxt (m 54) (m 53 1) (m 53 2 + 3) = 112) (by omega)]
               rw [q, if_neg (by decide)] at o1
               exact vk_w3 hd hK hT (by split <;> omega) _ o1)
          · refine v_aload_n (n := 30) xB_49 dX5_word_29 rfl rfl ?_
            refine v_gf_s (n := 33) (kz := 0) xB_49 dX5_word_30 xO_49 fl_5_9 fg_5_0 (sh_53 _ _ _) rfl st_53_0 rfl ?_
            refine v_aload_n (n := 34) xB_49 dX5_word_33 rfl rfl ?_
            refine v_gf_i (n := 37) (kz := 2) xB_49 dX5_word_34 xO_49 fl_5_28 fg_5_2 rfl (sh_53 _ _ _) rfl rfl ?_
            refine v_iload_n (n := 38) xB_49 dX5_word_37 rfl rfl ?_
            refine v_iadd (n := 39) xB_49 dX5_word_38 (by first | omega | (simp only [sA_same, sA_s, ud_s, Int.reduceEq, if_true, if_false, ite_true, ite_false, ↓reduceIte, and_true, true_and, eq_self, Int.add_zero, Int.reduceAdd]; omega) | (simp (disch := omega) only [sA_same, sA_ne, ud_eq, ud_ne, Int.add_zero, Int.reduceAdd]; omega)) rfl ?_
            refine v_iaload (n := 40) (lz := 100) xB_49 dX5_word_39 (sh_54 _ _ _) rfl (by first | omega | (simp only [sA_same, sA_s, ud_s, Int.reduceEq, if_true, if_false, ite_true, ite_false, ↓reduceIte, and_true, true_and, eq_self, Int.add_zero, Int.reduceAdd]; omega) | (simp (disch := omega) only [sA_same, sA_ne, ud_eq, ud_ne, Int.add_zero, Int.reduceAdd]; omega)) rfl ?_
            refine v_ldc_r (n := 42) xB_49 dX5_word_40 xO_49 lc_5_109 rfl ?_
            refine v_iload_n (n := 43) xB_49 dX5_word_42 rfl rfl ?_
            refine v_iconst (n := 44) xB_49 dX5_word_43 ⟨by decide, by decide⟩ rfl ?_
            refine v_imul (n := 45) xB_49 dX5_word_44 (by first | omega | (simp only [sA_same, sA_s, ud_s, Int.reduceEq, if_true, if_false, ite_true, ite_false, ↓reduceIte, and_true, true_and, eq_self, Int.add_zero, Int.reduceAdd]; omega) | (simp (disch := omega) only [sA_same, sA_ne, ud_eq, ud_ne, Int.add_zero, Int.reduceAdd]; omega)) rfl ?_
            refine v_iload_n (n := 46) xB_49 dX5_word_45 rfl rfl ?_
            refine v_iadd (n := 47) xB_49 dX5_word_46 (by first | omega | (simp only [sA_same, sA_s, ud_s, Int.reduceEq, if_true, if_false, ite_true, ite_false, ↓reduceIte, and_true, true_and, eq_self, Int.add_zero, Int.reduceAdd]; omega) | (simp (disch := omega) only [sA_same, sA_ne, ud_eq, ud_ne, Int.add_zero, Int.reduceAdd]; omega)) rfl ?_
            refine v_call_t (cls := 0) (n := 50) xB_49 dX5_word_47 xO_49 iv_5_111 rfl (by first | omega | (simp only [sA_same, sA_s, ud_s, Int.reduceEq, if_true, if_false, ite_true, ite_false, ↓reduceIte, and_true, true_and, eq_self, Int.add_zero, Int.reduceAdd]; omega) | (simp (disch := omega) only [sA_same, sA_ne, ud_eq, ud_ne, Int.add_zero, Int.reduceAdd]; omega)) rfl rfl rfl ?_
            refine j_charAt (by omega) (Or.inl rfl) (sh_m20 _ _ _) (by simp only [Int.reduceNeg, Int.reduceSub, Int.reduceMul, Int.reduceAdd, Int.add_zero]; omega) (by simp only [Int.reduceNeg, Int.reduceSub, Int.reduceMul, Int.reduceAdd, Int.add_zero]; omega) ?_
            (try simp only [Int.reduceNeg, Int.reduceSub, Int.reduceMul, Int.reduceAdd, Int.add_zero])
            refine v_ic_ne (t := 59) (n := 53) xB_49 dX5_word_50 (by decide) rfl rfl (fun g6 => ?_) (fun g6 => ?_)
            · refine v_iload_n (n := 60) xB_49 dX5_word_59 rfl rfl ?_
              refine v_iconst (n := 61) xB_49 dX5_word_60 ⟨by decide, by decide⟩ rfl ?_
              refine v_ic_ne_y (t := 76) xB_49 dX5_word_61 (by decide) rfl (by decide) ?_
              refine v_iload_n (n := 77) xB_49 dX5_word_76 rfl rfl ?_
              refine v_iload_n (n := 78) xB_49 dX5_word_77 rfl rfl ?_
              refine v_max (n := 81) xB_49 dX5_word_78 xO_49 sp_5_81 rfl rfl ?_
              refine v_istore_n1 (n := 82) xB_49 dX5_word_81 rfl rfl ?_
              refine v_iinc2 (n := 85) xB_49 dX5_word_82 rfl (by first | omega | (simp only [sA_same, sA_s, ud_s, Int.reduceEq, if_true, if_false, ite_true, ite_false, ↓reduceIte, and_true, true_and, eq_self, Int.add_zero, Int.reduceAdd]; omega) | (simp (disch := omega) only [sA_same, sA_ne, ud_eq, ud_ne, Int.add_zero, Int.reduceAdd]; omega)) rfl ?_
              refine v_goto (t := 4) xB_49 dX5_word_85 (by decide) rfl ?_
              first
              | (have q : mt4 (m 54) (m 53 1) (m 53 2) 115 107 105 112 = 0 := by unfold mt4; rw [if_neg (c := nxt (m 54) (m 53 1) (m 53 2) = 115) (by omega)]
                 rw [q, if_neg (by decide)] at o1
                 exact vk_w3 hd hK hT (by split <;> omega) _ o1)
              | (have q : mt4 (m 54) (m 53 1) (m 53 2) 115 107 105 112 = 1 := by unfold mt4; rw [if_pos (c := nxt (m 54) (m 53 1) (m 53 2) = 115) (by omega), if_neg (c := nxt (m 54) (m 53 1) (m 53 2 + 1) = 107) (by omega)]
                 rw [q, if_neg (by decide)] at o1
                 exact vk_w3 hd hK hT (by split <;> omega) _ o1)
              | (have q : mt4 (m 54) (m 53 1) (m 53 2) 115 107 105 112 = 2 := by unfold mt4; rw [if_pos (c := nxt (m 54) (m 53 1) (m 53 2) = 115) (by omega), if_pos (c := nxt (m 54) (m 53 1) (m 53 2 + 1) = 107) (by omega), if_neg (c := nxt (m 54) (m 53 1) (m 53 2 + 2) = 105) (by omega)]
                 rw [q, if_neg (by decide)] at o1
                 exact vk_w3 hd hK hT (by split <;> omega) _ o1)
              | (have q : mt4 (m 54) (m 53 1) (m 53 2) 115 107 105 112 = 3 := by unfold mt4; rw [if_pos (c := nxt (m 54) (m 53 1) (m 53 2) = 115) (by omega), if_pos (c := nxt (m 54) (m 53 1) (m 53 2 + 1) = 107) (by omega), if_pos (c := nxt (m 54) (m 53 1) (m 53 2 + 2) = 105) (by omega), if_neg (c := nxt (m 54) (m 53 1) (m 53 2 + 3) = 112) (by omega)]
                 rw [q, if_neg (by decide)] at o1
                 exact vk_w3 hd hK hT (by split <;> omega) _ o1)
            · refine v_iinc3 (n := 56) xB_49 dX5_word_53 rfl (by first | omega | (simp only [sA_same, sA_s, ud_s, Int.reduceEq, if_true, if_false, ite_true, ite_false, ↓reduceIte, and_true, true_and, eq_self, Int.add_zero, Int.reduceAdd]; omega) | (simp (disch := omega) only [sA_same, sA_ne, ud_eq, ud_ne, Int.add_zero, Int.reduceAdd]; omega)) rfl ?_
              refine v_goto (t := 11) xB_49 dX5_word_56 (by decide) rfl ?_
              refine v_iload_n (n := 12) xB_49 dX5_word_11 rfl rfl ?_
              refine v_iconst (n := 13) xB_49 dX5_word_12 ⟨by decide, by decide⟩ rfl ?_
              refine v_ic_ge_n (n := 16) xB_49 dX5_word_13 (by decide) rfl (by decide) ?_
              refine v_aload_n (n := 17) xB_49 dX5_word_16 rfl rfl ?_
              refine v_gf_i (n := 20) (kz := 2) xB_49 dX5_word_17 xO_49 fl_5_28 fg_5_2 rfl (sh_53 _ _ _) rfl rfl ?_
              refine v_iload_n (n := 21) xB_49 dX5_word_20 rfl rfl ?_
              refine v_iadd (n := 22) xB_49 dX5_word_21 (by first | omega | (simp only [sA_same, sA_s, ud_s, Int.reduceEq, if_true, if_false, ite_true, ite_false, ↓reduceIte, and_true, true_and, eq_self, Int.add_zero, Int.reduceAdd]; omega) | (simp (disch := omega) only [sA_same, sA_ne, ud_eq, ud_ne, Int.add_zero, Int.reduceAdd]; omega)) rfl ?_
              refine v_aload_n (n := 23) xB_49 dX5_word_22 rfl rfl ?_
              refine v_gf_i (n := 26) (kz := 1) xB_49 dX5_word_23 xO_49 fl_5_59 fg_5_1 rfl (sh_53 _ _ _) rfl rfl ?_
              refine v_ic_ge (t := 59) (n := 29) xB_49 dX5_word_26 (by decide) rfl rfl (fun g7 => ?_) (fun g7 => ?_)
              · refine v_iload_n (n := 60) xB_49 dX5_word_59 rfl rfl ?_
                refine v_iconst (n := 61) xB_49 dX5_word_60 ⟨by decide, by decide⟩ rfl ?_
                refine v_ic_ne_y (t := 76) xB_49 dX5_word_61 (by decide) rfl (by decide) ?_
                refine v_iload_n (n := 77) xB_49 dX5_word_76 rfl rfl ?_
                refine v_iload_n (n := 78) xB_49 dX5_word_77 rfl rfl ?_
                refine v_max (n := 81) xB_49 dX5_word_78 xO_49 sp_5_81 rfl rfl ?_
                refine v_istore_n1 (n := 82) xB_49 dX5_word_81 rfl rfl ?_
                refine v_iinc2 (n := 85) xB_49 dX5_word_82 rfl (by first | omega | (simp only [sA_same, sA_s, ud_s, Int.reduceEq, if_true, if_false, ite_true, ite_false, ↓reduceIte, and_true, true_and, eq_self, Int.add_zero, Int.reduceAdd]; omega) | (simp (disch := omega) only [sA_same, sA_ne, ud_eq, ud_ne, Int.add_zero, Int.reduceAdd]; omega)) rfl ?_
                refine v_goto (t := 4) xB_49 dX5_word_85 (by decide) rfl ?_
                first
                | (have q : mt4 (m 54) (m 53 1) (m 53 2) 115 107 105 112 = 0 := by unfold mt4; rw [if_neg (c := nxt (m 54) (m 53 1) (m 53 2) = 115) (by omega)]
                   rw [q, if_neg (by decide)] at o1
                   exact vk_w3 hd hK hT (by split <;> omega) _ o1)
                | (have q : mt4 (m 54) (m 53 1) (m 53 2) 115 107 105 112 = 1 := by unfold mt4; rw [if_pos (c := nxt (m 54) (m 53 1) (m 53 2) = 115) (by omega), if_neg (c := nxt (m 54) (m 53 1) (m 53 2 + 1) = 107) (by omega)]
                   rw [q, if_neg (by decide)] at o1
                   exact vk_w3 hd hK hT (by split <;> omega) _ o1)
                | (have q : mt4 (m 54) (m 53 1) (m 53 2) 115 107 105 112 = 2 := by unfold mt4; rw [if_pos (c := nxt (m 54) (m 53 1) (m 53 2) = 115) (by omega), if_pos (c := nxt (m 54) (m 53 1) (m 53 2 + 1) = 107) (by omega), if_neg (c := nxt (m 54) (m 53 1) (m 53 2 + 2) = 105) (by omega)]
                   rw [q, if_neg (by decide)] at o1
                   exact vk_w3 hd hK hT (by split <;> omega) _ o1)
                | (have q : mt4 (m 54) (m 53 1) (m 53 2) 115 107 105 112 = 3 := by unfold mt4; rw [if_pos (c := nxt (m 54) (m 53 1) (m 53 2) = 115) (by omega), if_pos (c := nxt (m 54) (m 53 1) (m 53 2 + 1) = 107) (by omega), if_pos (c := nxt (m 54) (m 53 1) (m 53 2 + 2) = 105) (by omega), if_neg (c := nxt (m 54) (m 53 1) (m 53 2 + 3) = 112) (by omega)]
                   rw [q, if_neg (by decide)] at o1
                   exact vk_w3 hd hK hT (by split <;> omega) _ o1)
              · refine v_aload_n (n := 30) xB_49 dX5_word_29 rfl rfl ?_
                refine v_gf_s (n := 33) (kz := 0) xB_49 dX5_word_30 xO_49 fl_5_9 fg_5_0 (sh_53 _ _ _) rfl st_53_0 rfl ?_
                refine v_aload_n (n := 34) xB_49 dX5_word_33 rfl rfl ?_
                refine v_gf_i (n := 37) (kz := 2) xB_49 dX5_word_34 xO_49 fl_5_28 fg_5_2 rfl (sh_53 _ _ _) rfl rfl ?_
                refine v_iload_n (n := 38) xB_49 dX5_word_37 rfl rfl ?_
                refine v_iadd (n := 39) xB_49 dX5_word_38 (by first | omega | (simp only [sA_same, sA_s, ud_s, Int.reduceEq, if_true, if_false, ite_true, ite_false, ↓reduceIte, and_true, true_and, eq_self, Int.add_zero, Int.reduceAdd]; omega) | (simp (disch := omega) only [sA_same, sA_ne, ud_eq, ud_ne, Int.add_zero, Int.reduceAdd]; omega)) rfl ?_
                refine v_iaload (n := 40) (lz := 100) xB_49 dX5_word_39 (sh_54 _ _ _) rfl (by first | omega | (simp only [sA_same, sA_s, ud_s, Int.reduceEq, if_true, if_false, ite_true, ite_false, ↓reduceIte, and_true, true_and, eq_self, Int.add_zero, Int.reduceAdd]; omega) | (simp (disch := omega) only [sA_same, sA_ne, ud_eq, ud_ne, Int.add_zero, Int.reduceAdd]; omega)) rfl ?_
                refine v_ldc_r (n := 42) xB_49 dX5_word_40 xO_49 lc_5_109 rfl ?_
                refine v_iload_n (n := 43) xB_49 dX5_word_42 rfl rfl ?_
                refine v_iconst (n := 44) xB_49 dX5_word_43 ⟨by decide, by decide⟩ rfl ?_
                refine v_imul (n := 45) xB_49 dX5_word_44 (by first | omega | (simp only [sA_same, sA_s, ud_s, Int.reduceEq, if_true, if_false, ite_true, ite_false, ↓reduceIte, and_true, true_and, eq_self, Int.add_zero, Int.reduceAdd]; omega) | (simp (disch := omega) only [sA_same, sA_ne, ud_eq, ud_ne, Int.add_zero, Int.reduceAdd]; omega)) rfl ?_
                refine v_iload_n (n := 46) xB_49 dX5_word_45 rfl rfl ?_
                refine v_iadd (n := 47) xB_49 dX5_word_46 (by first | omega | (simp only [sA_same, sA_s, ud_s, Int.reduceEq, if_true, if_false, ite_true, ite_false, ↓reduceIte, and_true, true_and, eq_self, Int.add_zero, Int.reduceAdd]; omega) | (simp (disch := omega) only [sA_same, sA_ne, ud_eq, ud_ne, Int.add_zero, Int.reduceAdd]; omega)) rfl ?_
                refine v_call_t (cls := 0) (n := 50) xB_49 dX5_word_47 xO_49 iv_5_111 rfl (by first | omega | (simp only [sA_same, sA_s, ud_s, Int.reduceEq, if_true, if_false, ite_true, ite_false, ↓reduceIte, and_true, true_and, eq_self, Int.add_zero, Int.reduceAdd]; omega) | (simp (disch := omega) only [sA_same, sA_ne, ud_eq, ud_ne, Int.add_zero, Int.reduceAdd]; omega)) rfl rfl rfl ?_
                refine j_charAt (by omega) (Or.inl rfl) (sh_m20 _ _ _) (by simp only [Int.reduceNeg, Int.reduceSub, Int.reduceMul, Int.reduceAdd, Int.add_zero]; omega) (by simp only [Int.reduceNeg, Int.reduceSub, Int.reduceMul, Int.reduceAdd, Int.add_zero]; omega) ?_
                (try simp only [Int.reduceNeg, Int.reduceSub, Int.reduceMul, Int.reduceAdd, Int.add_zero])
                refine v_ic_ne (t := 59) (n := 53) xB_49 dX5_word_50 (by decide) rfl rfl (fun g8 => ?_) (fun g8 => ?_)
                · refine v_iload_n (n := 60) xB_49 dX5_word_59 rfl rfl ?_
                  refine v_iconst (n := 61) xB_49 dX5_word_60 ⟨by decide, by decide⟩ rfl ?_
                  refine v_ic_ne_y (t := 76) xB_49 dX5_word_61 (by decide) rfl (by decide) ?_
                  refine v_iload_n (n := 77) xB_49 dX5_word_76 rfl rfl ?_
                  refine v_iload_n (n := 78) xB_49 dX5_word_77 rfl rfl ?_
                  refine v_max (n := 81) xB_49 dX5_word_78 xO_49 sp_5_81 rfl rfl ?_
                  refine v_istore_n1 (n := 82) xB_49 dX5_word_81 rfl rfl ?_
                  refine v_iinc2 (n := 85) xB_49 dX5_word_82 rfl (by first | omega | (simp only [sA_same, sA_s, ud_s, Int.reduceEq, if_true, if_false, ite_true, ite_false, ↓reduceIte, and_true, true_and, eq_self, Int.add_zero, Int.reduceAdd]; omega) | (simp (disch := omega) only [sA_same, sA_ne, ud_eq, ud_ne, Int.add_zero, Int.reduceAdd]; omega)) rfl ?_
                  refine v_goto (t := 4) xB_49 dX5_word_85 (by decide) rfl ?_
                  first
                  | (have q : mt4 (m 54) (m 53 1) (m 53 2) 115 107 105 112 = 0 := by unfold mt4; rw [if_neg (c := nxt (m 54) (m 53 1) (m 53 2) = 115) (by omega)]
                     rw [q, if_neg (by decide)] at o1
                     exact vk_w3 hd hK hT (by split <;> omega) _ o1)
                  | (have q : mt4 (m 54) (m 53 1) (m 53 2) 115 107 105 112 = 1 := by unfold mt4; rw [if_pos (c := nxt (m 54) (m 53 1) (m 53 2) = 115) (by omega), if_neg (c := nxt (m 54) (m 53 1) (m 53 2 + 1) = 107) (by omega)]
                     rw [q, if_neg (by decide)] at o1
                     exact vk_w3 hd hK hT (by split <;> omega) _ o1)
                  | (have q : mt4 (m 54) (m 53 1) (m 53 2) 115 107 105 112 = 2 := by unfold mt4; rw [if_pos (c := nxt (m 54) (m 53 1) (m 53 2) = 115) (by omega), if_pos (c := nxt (m 54) (m 53 1) (m 53 2 + 1) = 107) (by omega), if_neg (c := nxt (m 54) (m 53 1) (m 53 2 + 2) = 105) (by omega)]
                     rw [q, if_neg (by decide)] at o1
                     exact vk_w3 hd hK hT (by split <;> omega) _ o1)
                  | (have q : mt4 (m 54) (m 53 1) (m 53 2) 115 107 105 112 = 3 := by unfold mt4; rw [if_pos (c := nxt (m 54) (m 53 1) (m 53 2) = 115) (by omega), if_pos (c := nxt (m 54) (m 53 1) (m 53 2 + 1) = 107) (by omega), if_pos (c := nxt (m 54) (m 53 1) (m 53 2 + 2) = 105) (by omega), if_neg (c := nxt (m 54) (m 53 1) (m 53 2 + 3) = 112) (by omega)]
                     rw [q, if_neg (by decide)] at o1
                     exact vk_w3 hd hK hT (by split <;> omega) _ o1)
                · refine v_iinc3 (n := 56) xB_49 dX5_word_53 rfl (by first | omega | (simp only [sA_same, sA_s, ud_s, Int.reduceEq, if_true, if_false, ite_true, ite_false, ↓reduceIte, and_true, true_and, eq_self, Int.add_zero, Int.reduceAdd]; omega) | (simp (disch := omega) only [sA_same, sA_ne, ud_eq, ud_ne, Int.add_zero, Int.reduceAdd]; omega)) rfl ?_
                  refine v_goto (t := 11) xB_49 dX5_word_56 (by decide) rfl ?_
                  refine v_iload_n (n := 12) xB_49 dX5_word_11 rfl rfl ?_
                  refine v_iconst (n := 13) xB_49 dX5_word_12 ⟨by decide, by decide⟩ rfl ?_
                  refine v_ic_ge_y (t := 59) xB_49 dX5_word_13 (by decide) rfl (by decide) ?_
                  refine v_iload_n (n := 60) xB_49 dX5_word_59 rfl rfl ?_
                  refine v_iconst (n := 61) xB_49 dX5_word_60 ⟨by decide, by decide⟩ rfl ?_
                  refine v_ic_ne_n (n := 64) xB_49 dX5_word_61 (by decide) rfl (by decide) ?_
                  refine v_aload_n (n := 65) xB_49 dX5_word_64 rfl rfl ?_
                  refine v_dup (n := 66) xB_49 dX5_word_65 rfl rfl ?_
                  refine v_gf_i (n := 69) (kz := 2) xB_49 dX5_word_66 xO_49 fl_5_28 fg_5_2 rfl (sh_53 _ _ _) rfl rfl ?_
                  refine v_iconst (n := 70) xB_49 dX5_word_69 ⟨by decide, by decide⟩ rfl ?_
                  refine v_iadd (n := 71) xB_49 dX5_word_70 (by first | omega | (simp only [sA_same, sA_s, ud_s, Int.reduceEq, if_true, if_false, ite_true, ite_false, ↓reduceIte, and_true, true_and, eq_self, Int.add_zero, Int.reduceAdd]; omega) | (simp (disch := omega) only [sA_same, sA_ne, ud_eq, ud_ne, Int.add_zero, Int.reduceAdd]; omega)) rfl ?_
                  refine v_pf_i (n := 74) (kz := 2) xB_49 dX5_word_71 xO_49 fl_5_28 fg_5_2 (Or.inl fn_5_2) (sh_53 _ _ _) (by decide) rfl rfl ?_
                  refine v_iload_n (n := 75) xB_49 dX5_word_74 rfl rfl ?_
                  refine v_ireturn0 xB_49 dX5_word_75 xK_49 ?_
                  have q : mt4 (m 54) (m 53 1) (m 53 2) 115 107 105 112 = 4 := by unfold mt4; rw [if_pos (c := nxt (m 54) (m 53 1) (m 53 2) = 115) (by omega), if_pos (c := nxt (m 54) (m 53 1) (m 53 2 + 1) = 107) (by omega), if_pos (c := nxt (m 54) (m 53 1) (m 53 2 + 2) = 105) (by omega), if_pos (c := nxt (m 54) (m 53 1) (m 53 2 + 3) = 112) (by omega)]
                  rw [q, if_pos rfl] at o1
                  exact o1
set_option maxHeartbeats 1000000 in
theorem vk_w1 {d : Nat} {m : PM} {dy : List (Nat × Nat)} {L : Nat} {Q : Option PV → PS → Prop} {mo : Int} (hd : 5 ≤ d) (hK : KT m) (hT : (0 ≤ m 53 1 ∧ m 53 1 ≤ 100) ∧ (0 ≤ m 53 2 ∧ m 53 2 ≤ m 53 1)) (hm : 0 ≤ mo ∧ mo ≤ 4) (x3 : Option PV) (o1 : Q (some (.inl (wdR (m 54) (m 53 1) (m 53 2) 3 mo).1)) (setA m 53 (ud (m 53) 2 (wdR (m 54) (m 53 1) (m 53 2) 3 mo).2), (none, (dy, L)))) : V d 49 (4, ([some (.inr (.inr 53)), some (.inl mo), some (.inl 1), x3], ([], (m, (none, (dy, L)))))) Q := by
  have l0 : m (-20) 4 = 116 := hK.1 4 (by decide)
  have x0 : m 53 2 < m 53 1 → nxt (m 54) (m 53 1) (m 53 2) = m 54 (m 53 2) := fun h => nx_t h
  have y0 : ¬ m 53 2 < m 53 1 → nxt (m 54) (m 53 1) (m 53 2) = -1 := fun h => nx_f h
  have l1 : m (-20) 5 = 105 := hK.1 5 (by decide)
  have x1 : m 53 2 + 1 < m 53 1 → nxt (m 54) (m 53 1) (m 53 2 + 1) = m 54 (m 53 2 + 1) := fun h => nx_t h
  have y1 : ¬ m 53 2 + 1 < m 53 1 → nxt (m 54) (m 53 1) (m 53 2 + 1) = -1 := fun h => nx_f h
  have l2 : m (-20) 6 = 108 := hK.1 6 (by decide)
  have x2 : m 53 2 + 2 < m 53 1 → nxt (m 54) (m 53 1) (m 53 2 + 2) = m 54 (m 53 2 + 2) := fun h => nx_t h
  have y2 : ¬ m 53 2 + 2 < m 53 1 → nxt (m 54) (m 53 1) (m 53 2 + 2) = -1 := fun h => nx_f h
  have l3 : m (-20) 7 = 108 := hK.1 7 (by decide)
  have x3 : m 53 2 + 3 < m 53 1 → nxt (m 54) (m 53 1) (m 53 2 + 3) = m 54 (m 53 2 + 3) := fun h => nx_t h
  have y3 : ¬ m 53 2 + 3 < m 53 1 → nxt (m 54) (m 53 1) (m 53 2 + 3) = -1 := fun h => nx_f h
  have hw : wdR (m 54) (m 53 1) (m 53 2) 3 mo = if mt4 (m 54) (m 53 1) (m 53 2) 116 105 108 108 = 4 then (1, m 53 2 + 4) else wdR (m 54) (m 53 1) (m 53 2) 2 (if mo < mt4 (m 54) (m 53 1) (m 53 2) 116 105 108 108 then mt4 (m 54) (m 53 1) (m 53 2) 116 105 108 108 else mo) := by rw [← mw_1]; rfl
  rw [hw] at o1
  clear hw
  refine v_iload_n (n := 5) xB_49 dX5_word_4 rfl rfl ?_
  refine v_iconst (n := 6) xB_49 dX5_word_5 ⟨by decide, by decide⟩ rfl ?_
  refine v_ic_ge_n (n := 9) xB_49 dX5_word_6 (by decide) rfl (by decide) ?_
  refine v_iconst (n := 10) xB_49 dX5_word_9 ⟨by decide, by decide⟩ rfl ?_
  refine v_istore_n3 (n := 11) xB_49 dX5_word_10 rfl rfl ?_
  refine v_iload_n (n := 12) xB_49 dX5_word_11 rfl rfl ?_
  refine v_iconst (n := 13) xB_49 dX5_word_12 ⟨by decide, by decide⟩ rfl ?_
  refine v_ic_ge_n (n := 16) xB_49 dX5_word_13 (by decide) rfl (by decide) ?_
  refine v_aload_n (n := 17) xB_49 dX5_word_16 rfl rfl ?_
  refine v_gf_i (n := 20) (kz := 2) xB_49 dX5_word_17 xO_49 fl_5_28 fg_5_2 rfl (sh_53 _ _ _) rfl rfl ?_
  refine v_iload_n (n := 21) xB_49 dX5_word_20 rfl rfl ?_
  refine v_iadd (n := 22) xB_49 dX5_word_21 (by first | omega | (simp only [sA_same, sA_s, ud_s, Int.reduceEq, if_true, if_false, ite_true, ite_false, ↓reduceIte, and_true, true_and, eq_self, Int.add_zero, Int.reduceAdd]; omega) | (simp (disch := omega) only [sA_same, sA_ne, ud_eq, ud_ne, Int.add_zero, Int.reduceAdd]; omega)) rfl ?_
  refine v_aload_n (n := 23) xB_49 dX5_word_22 rfl rfl ?_
  refine v_gf_i (n := 26) (kz := 1) xB_49 dX5_word_23 xO_49 fl_5_59 fg_5_1 rfl (sh_53 _ _ _) rfl rfl ?_
  refine v_ic_ge (t := 59) (n := 29) xB_49 dX5_word_26 (by decide) rfl rfl (fun g1 => ?_) (fun g1 => ?_)
  · refine v_iload_n (n := 60) xB_49 dX5_word_59 rfl rfl ?_
    refine v_iconst (n := 61) xB_49 dX5_word_60 ⟨by decide, by decide⟩ rfl ?_
    refine v_ic_ne_y (t := 76) xB_49 dX5_word_61 (by decide) rfl (by decide) ?_
    refine v_iload_n (n := 77) xB_49 dX5_word_76 rfl rfl ?_
    refine v_iload_n (n := 78) xB_49 dX5_word_77 rfl rfl ?_
    refine v_max (n := 81) xB_49 dX5_word_78 xO_49 sp_5_81 rfl rfl ?_
    refine v_istore_n1 (n := 82) xB_49 dX5_word_81 rfl rfl ?_
    refine v_iinc2 (n := 85) xB_49 dX5_word_82 rfl (by first | omega | (simp only [sA_same, sA_s, ud_s, Int.reduceEq, if_true, if_false, ite_true, ite_false, ↓reduceIte, and_true, true_and, eq_self, Int.add_zero, Int.reduceAdd]; omega) | (simp (disch := omega) only [sA_same, sA_ne, ud_eq, ud_ne, Int.add_zero, Int.reduceAdd]; omega)) rfl ?_
    refine v_goto (t := 4) xB_49 dX5_word_85 (by decide) rfl ?_
    first
    | (have q : mt4 (m 54) (m 53 1) (m 53 2) 116 105 108 108 = 0 := by unfold mt4; rw [if_neg (c := nxt (m 54) (m 53 1) (m 53 2) = 116) (by omega)]
       rw [q, if_neg (by decide)] at o1
       exact vk_w2 hd hK hT (by split <;> omega) _ o1)
    | (have q : mt4 (m 54) (m 53 1) (m 53 2) 116 105 108 108 = 1 := by unfold mt4; rw [if_pos (c := nxt (m 54) (m 53 1) (m 53 2) = 116) (by omega), if_neg (c := nxt (m 54) (m 53 1) (m 53 2 + 1) = 105) (by omega)]
       rw [q, if_neg (by decide)] at o1
       exact vk_w2 hd hK hT (by split <;> omega) _ o1)
    | (have q : mt4 (m 54) (m 53 1) (m 53 2) 116 105 108 108 = 2 := by unfold mt4; rw [if_pos (c := nxt (m 54) (m 53 1) (m 53 2) = 116) (by omega), if_pos (c := nxt (m 54) (m 53 1) (m 53 2 + 1) = 105) (by omega), if_neg (c := nxt (m 54) (m 53 1) (m 53 2 + 2) = 108) (by omega)]
       rw [q, if_neg (by decide)] at o1
       exact vk_w2 hd hK hT (by split <;> omega) _ o1)
    | (have q : mt4 (m 54) (m 53 1) (m 53 2) 116 105 108 108 = 3 := by unfold mt4; rw [if_pos (c := nxt (m 54) (m 53 1) (m 53 2) = 116) (by omega), if_pos (c := nxt (m 54) (m 53 1) (m 53 2 + 1) = 105) (by omega), if_pos (c := nxt (m 54) (m 53 1) (m 53 2 + 2) = 108) (by omega), if_neg (c := nxt (m 54) (m 53 1) (m 53 2 + 3) = 108) (by omega)]
       rw [q, if_neg (by decide)] at o1
       exact vk_w2 hd hK hT (by split <;> omega) _ o1)
  · refine v_aload_n (n := 30) xB_49 dX5_word_29 rfl rfl ?_
    refine v_gf_s (n := 33) (kz := 0) xB_49 dX5_word_30 xO_49 fl_5_9 fg_5_0 (sh_53 _ _ _) rfl st_53_0 rfl ?_
    refine v_aload_n (n := 34) xB_49 dX5_word_33 rfl rfl ?_
    refine v_gf_i (n := 37) (kz := 2) xB_49 dX5_word_34 xO_49 fl_5_28 fg_5_2 rfl (sh_53 _ _ _) rfl rfl ?_
    refine v_iload_n (n := 38) xB_49 dX5_word_37 rfl rfl ?_
    refine v_iadd (n := 39) xB_49 dX5_word_38 (by first | omega | (simp only [sA_same, sA_s, ud_s, Int.reduceEq, if_true, if_false, ite_true, ite_false, ↓reduceIte, and_true, true_and, eq_self, Int.add_zero, Int.reduceAdd]; omega) | (simp (disch := omega) only [sA_same, sA_ne, ud_eq, ud_ne, Int.add_zero, Int.reduceAdd]; omega)) rfl ?_
    refine v_iaload (n := 40) (lz := 100) xB_49 dX5_word_39 (sh_54 _ _ _) rfl (by first | omega | (simp only [sA_same, sA_s, ud_s, Int.reduceEq, if_true, if_false, ite_true, ite_false, ↓reduceIte, and_true, true_and, eq_self, Int.add_zero, Int.reduceAdd]; omega) | (simp (disch := omega) only [sA_same, sA_ne, ud_eq, ud_ne, Int.add_zero, Int.reduceAdd]; omega)) rfl ?_
    refine v_ldc_r (n := 42) xB_49 dX5_word_40 xO_49 lc_5_109 rfl ?_
    refine v_iload_n (n := 43) xB_49 dX5_word_42 rfl rfl ?_
    refine v_iconst (n := 44) xB_49 dX5_word_43 ⟨by decide, by decide⟩ rfl ?_
    refine v_imul (n := 45) xB_49 dX5_word_44 (by first | omega | (simp only [sA_same, sA_s, ud_s, Int.reduceEq, if_true, if_false, ite_true, ite_false, ↓reduceIte, and_true, true_and, eq_self, Int.add_zero, Int.reduceAdd]; omega) | (simp (disch := omega) only [sA_same, sA_ne, ud_eq, ud_ne, Int.add_zero, Int.reduceAdd]; omega)) rfl ?_
    refine v_iload_n (n := 46) xB_49 dX5_word_45 rfl rfl ?_
    refine v_iadd (n := 47) xB_49 dX5_word_46 (by first | omega | (simp only [sA_same, sA_s, ud_s, Int.reduceEq, if_true, if_false, ite_true, ite_false, ↓reduceIte, and_true, true_and, eq_self, Int.add_zero, Int.reduceAdd]; omega) | (simp (disch := omega) only [sA_same, sA_ne, ud_eq, ud_ne, Int.add_zero, Int.reduceAdd]; omega)) rfl ?_
    refine v_call_t (cls := 0) (n := 50) xB_49 dX5_word_47 xO_49 iv_5_111 rfl (by first | omega | (simp only [sA_same, sA_s, ud_s, Int.reduceEq, if_true, if_false, ite_true, ite_false, ↓reduceIte, and_true, true_and, eq_self, Int.add_zero, Int.reduceAdd]; omega) | (simp (disch := omega) only [sA_same, sA_ne, ud_eq, ud_ne, Int.add_zero, Int.reduceAdd]; omega)) rfl rfl rfl ?_
    refine j_charAt (by omega) (Or.inl rfl) (sh_m20 _ _ _) (by simp only [Int.reduceNeg, Int.reduceSub, Int.reduceMul, Int.reduceAdd, Int.add_zero]; omega) (by simp only [Int.reduceNeg, Int.reduceSub, Int.reduceMul, Int.reduceAdd, Int.add_zero]; omega) ?_
    (try simp only [Int.reduceNeg, Int.reduceSub, Int.reduceMul, Int.reduceAdd, Int.add_zero])
    refine v_ic_ne (t := 59) (n := 53) xB_49 dX5_word_50 (by decide) rfl rfl (fun g2 => ?_) (fun g2 => ?_)
    · refine v_iload_n (n := 60) xB_49 dX5_word_59 rfl rfl ?_
      refine v_iconst (n := 61) xB_49 dX5_word_60 ⟨by decide, by decide⟩ rfl ?_
      refine v_ic_ne_y (t := 76) xB_49 dX5_word_61 (by decide) rfl (by decide) ?_
      refine v_iload_n (n := 77) xB_49 dX5_word_76 rfl rfl ?_
      refine v_iload_n (n := 78) xB_49 dX5_word_77 rfl rfl ?_
      refine v_max (n := 81) xB_49 dX5_word_78 xO_49 sp_5_81 rfl rfl ?_
      refine v_istore_n1 (n := 82) xB_49 dX5_word_81 rfl rfl ?_
      refine v_iinc2 (n := 85) xB_49 dX5_word_82 rfl (by first | omega | (simp only [sA_same, sA_s, ud_s, Int.reduceEq, if_true, if_false, ite_true, ite_false, ↓reduceIte, and_true, true_and, eq_self, Int.add_zero, Int.reduceAdd]; omega) | (simp (disch := omega) only [sA_same, sA_ne, ud_eq, ud_ne, Int.add_zero, Int.reduceAdd]; omega)) rfl ?_
      refine v_goto (t := 4) xB_49 dX5_word_85 (by decide) rfl ?_
      first
      | (have q : mt4 (m 54) (m 53 1) (m 53 2) 116 105 108 108 = 0 := by unfold mt4; rw [if_neg (c := nxt (m 54) (m 53 1) (m 53 2) = 116) (by omega)]
         rw [q, if_neg (by decide)] at o1
         exact vk_w2 hd hK hT (by split <;> omega) _ o1)
      | (have q : mt4 (m 54) (m 53 1) (m 53 2) 116 105 108 108 = 1 := by unfold mt4; rw [if_pos (c := nxt (m 54) (m 53 1) (m 53 2) = 116) (by omega), if_neg (c := nxt (m 54) (m 53 1) (m 53 2 + 1) = 105) (by omega)]
         rw [q, if_neg (by decide)] at o1
         exact vk_w2 hd hK hT (by split <;> omega) _ o1)
      | (have q : mt4 (m 54) (m 53 1) (m 53 2) 116 105 108 108 = 2 := by unfold mt4; rw [if_pos (c := nxt (m 54) (m 53 1) (m 53 2) = 116) (by omega), if_pos (c := nxt (m 54) (m 53 1) (m 53 2 + 1) = 105) (by omega), if_neg (c := nxt (m 54) (m 53 1) (m 53 2 + 2) = 108) (by omega)]
         rw [q, if_neg (by decide)] at o1
         exact vk_w2 hd hK hT (by split <;> omega) _ o1)
      | (have q : mt4 (m 54) (m 53 1) (m 53 2) 116 105 108 108 = 3 := by unfold mt4; rw [if_pos (c := nxt (m 54) (m 53 1) (m 53 2) = 116) (by omega), if_pos (c := nxt (m 54) (m 53 1) (m 53 2 + 1) = 105) (by omega), if_pos (c := nxt (m 54) (m 53 1) (m 53 2 + 2) = 108) (by omega), if_neg (c := nxt (m 54) (m 53 1) (m 53 2 + 3) = 108) (by omega)]
         rw [q, if_neg (by decide)] at o1
         exact vk_w2 hd hK hT (by split <;> omega) _ o1)
    · refine v_iinc3 (n := 56) xB_49 dX5_word_53 rfl (by first | omega | (simp only [sA_same, sA_s, ud_s, Int.reduceEq, if_true, if_false, ite_true, ite_false, ↓reduceIte, and_true, true_and, eq_self, Int.add_zero, Int.reduceAdd]; omega) | (simp (disch := omega) only [sA_same, sA_ne, ud_eq, ud_ne, Int.add_zero, Int.reduceAdd]; omega)) rfl ?_
      refine v_goto (t := 11) xB_49 dX5_word_56 (by decide) rfl ?_
      refine v_iload_n (n := 12) xB_49 dX5_word_11 rfl rfl ?_
      refine v_iconst (n := 13) xB_49 dX5_word_12 ⟨by decide, by decide⟩ rfl ?_
      refine v_ic_ge_n (n := 16) xB_49 dX5_word_13 (by decide) rfl (by decide) ?_
      refine v_aload_n (n := 17) xB_49 dX5_word_16 rfl rfl ?_
      refine v_gf_i (n := 20) (kz := 2) xB_49 dX5_word_17 xO_49 fl_5_28 fg_5_2 rfl (sh_53 _ _ _) rfl rfl ?_
      refine v_iload_n (n := 21) xB_49 dX5_word_20 rfl rfl ?_
      refine v_iadd (n := 22) xB_49 dX5_word_21 (by first | omega | (simp only [sA_same, sA_s, ud_s, Int.reduceEq, if_true, if_false, ite_true, ite_false, ↓reduceIte, and_true, true_and, eq_self, Int.add_zero, Int.reduceAdd]; omega) | (simp (disch := omega) only [sA_same, sA_ne, ud_eq, ud_ne, Int.add_zero, Int.reduceAdd]; omega)) rfl ?_
      refine v_aload_n (n := 23) xB_49 dX5_word_22 rfl rfl ?_
      refine v_gf_i (n := 26) (kz := 1) xB_49 dX5_word_23 xO_49 fl_5_59 fg_5_1 rfl (sh_53 _ _ _) rfl rfl ?_
      refine v_ic_ge (t := 59) (n := 29) xB_49 dX5_word_26 (by decide) rfl rfl (fun g3 => ?_) (fun g3 => ?_)
      · refine v_iload_n (n := 60) xB_49 dX5_word_59 rfl rfl ?_
        refine v_iconst (n := 61) xB_49 dX5_word_60 ⟨by decide, by decide⟩ rfl ?_
        refine v_ic_ne_y (t := 76) xB_49 dX5_word_61 (by decide) rfl (by decide) ?_
        refine v_iload_n (n := 77) xB_49 dX5_word_76 rfl rfl ?_
        refine v_iload_n (n := 78) xB_49 dX5_word_77 rfl rfl ?_
        refine v_max (n := 81) xB_49 dX5_word_78 xO_49 sp_5_81 rfl rfl ?_
        refine v_istore_n1 (n := 82) xB_49 dX5_word_81 rfl rfl ?_
        refine v_iinc2 (n := 85) xB_49 dX5_word_82 rfl (by first | omega | (simp only [sA_same, sA_s, ud_s, Int.reduceEq, if_true, if_false, ite_true, ite_false, ↓reduceIte, and_true, true_and, eq_self, Int.add_zero, Int.reduceAdd]; omega) | (simp (disch := omega) only [sA_same, sA_ne, ud_eq, ud_ne, Int.add_zero, Int.reduceAdd]; omega)) rfl ?_
        refine v_goto (t := 4) xB_49 dX5_word_85 (by decide) rfl ?_
        first
        | (have q : mt4 (m 54) (m 53 1) (m 53 2) 116 105 108 108 = 0 := by unfold mt4; rw [if_neg (c := nxt (m 54) (m 53 1) (m 53 2) = 116) (by omega)]
           rw [q, if_neg (by decide)] at o1
           exact vk_w2 hd hK hT (by split <;> omega) _ o1)
        | (have q : mt4 (m 54) (m 53 1) (m 53 2) 116 105 108 108 = 1 := by unfold mt4; rw [if_pos (c := nxt (m 54) (m 53 1) (m 53 2) = 116) (by omega), if_neg (c := nxt (m 54) (m 53 1) (m 53 2 + 1) = 105) (by omega)]
           rw [q, if_neg (by decide)] at o1
           exact vk_w2 hd hK hT (by split <;> omega) _ o1)
        | (have q : mt4 (m 54) (m 53 1) (m 53 2) 116 105 108 108 = 2 := by unfold mt4; rw [if_pos (c := nxt (m 54) (m 53 1) (m 53 2) = 116) (by omega), if_pos (c := nxt (m 54) (m 53 1) (m 53 2 + 1) = 105) (by omega), if_neg (c := nxt (m 54) (m 53 1) (m 53 2 + 2) = 108) (by omega)]
           rw [q, if_neg (by decide)] at o1
           exact vk_w2 hd hK hT (by split <;> omega) _ o1)
        | (have q : mt4 (m 54) (m 53 1) (m 53 2) 116 105 108 108 = 3 := by unfold mt4; rw [if_pos (c := nxt (m 54) (m 53 1) (m 53 2) = 116) (by omega), if_pos (c := nxt (m 54) (m 53 1) (m 53 2 + 1) = 105) (by omega), if_pos (c := nxt (m 54) (m 53 1) (m 53 2 + 2) = 108) (by omega), if_neg (c := nxt (m 54) (m 53 1) (m 53 2 + 3) = 108) (by omega)]
           rw [q, if_neg (by decide)] at o1
           exact vk_w2 hd hK hT (by split <;> omega) _ o1)
      · refine v_aload_n (n := 30) xB_49 dX5_word_29 rfl rfl ?_
        refine v_gf_s (n := 33) (kz := 0) xB_49 dX5_word_30 xO_49 fl_5_9 fg_5_0 (sh_53 _ _ _) rfl st_53_0 rfl ?_
        refine v_aload_n (n := 34) xB_49 dX5_word_33 rfl rfl ?_
        refine v_gf_i (n := 37) (kz := 2) xB_49 dX5_word_34 xO_49 fl_5_28 fg_5_2 rfl (sh_53 _ _ _) rfl rfl ?_
        refine v_iload_n (n := 38) xB_49 dX5_word_37 rfl rfl ?_
        refine v_iadd (n := 39) xB_49 dX5_word_38 (by first | omega | (simp only [sA_same, sA_s, ud_s, Int.reduceEq, if_true, if_false, ite_true, ite_false, ↓reduceIte, and_true, true_and, eq_self, Int.add_zero, Int.reduceAdd]; omega) | (simp (disch := omega) only [sA_same, sA_ne, ud_eq, ud_ne, Int.add_zero, Int.reduceAdd]; omega)) rfl ?_
        refine v_iaload (n := 40) (lz := 100) xB_49 dX5_word_39 (sh_54 _ _ _) rfl (by first | omega | (simp only [sA_same, sA_s, ud_s, Int.reduceEq, if_true, if_false, ite_true, ite_false, ↓reduceIte, and_true, true_and, eq_self, Int.add_zero, Int.reduceAdd]; omega) | (simp (disch := omega) only [sA_same, sA_ne, ud_eq, ud_ne, Int.add_zero, Int.reduceAdd]; omega)) rfl ?_
        refine v_ldc_r (n := 42) xB_49 dX5_word_40 xO_49 lc_5_109 rfl ?_
        refine v_iload_n (n := 43) xB_49 dX5_word_42 rfl rfl ?_
        refine v_iconst (n := 44) xB_49 dX5_word_43 ⟨by decide, by decide⟩ rfl ?_
        refine v_imul (n := 45) xB_49 dX5_word_44 (by first | omega | (simp only [sA_same, sA_s, ud_s, Int.reduceEq, if_true, if_false, ite_true, ite_false, ↓reduceIte, and_true, true_and, eq_self, Int.add_zero, Int.reduceAdd]; omega) | (simp (disch := omega) only [sA_same, sA_ne, ud_eq, ud_ne, Int.add_zero, Int.reduceAdd]; omega)) rfl ?_
        refine v_iload_n (n := 46) xB_49 dX5_word_45 rfl rfl ?_
        refine v_iadd (n := 47) xB_49 dX5_word_46 (by first | omega | (simp only [sA_same, sA_s, ud_s, Int.reduceEq, if_true, if_false, ite_true, ite_false, ↓reduceIte, and_true, true_and, eq_self, Int.add_zero, Int.reduceAdd]; omega) | (simp (disch := omega) only [sA_same, sA_ne, ud_eq, ud_ne, Int.add_zero, Int.reduceAdd]; omega)) rfl ?_
        refine v_call_t (cls := 0) (n := 50) xB_49 dX5_word_47 xO_49 iv_5_111 rfl (by first | omega | (simp only [sA_same, sA_s, ud_s, Int.reduceEq, if_true, if_false, ite_true, ite_false, ↓reduceIte, and_true, true_and, eq_self, Int.add_zero, Int.reduceAdd]; omega) | (simp (disch := omega) only [sA_same, sA_ne, ud_eq, ud_ne, Int.add_zero, Int.reduceAdd]; omega)) rfl rfl rfl ?_
        refine j_charAt (by omega) (Or.inl rfl) (sh_m20 _ _ _) (by simp only [Int.reduceNeg, Int.reduceSub, Int.reduceMul, Int.reduceAdd, Int.add_zero]; omega) (by simp only [Int.reduceNeg, Int.reduceSub, Int.reduceMul, Int.reduceAdd, Int.add_zero]; omega) ?_
        (try simp only [Int.reduceNeg, Int.reduceSub, Int.reduceMul, Int.reduceAdd, Int.add_zero])
        refine v_ic_ne (t := 59) (n := 53) xB_49 dX5_word_50 (by decide) rfl rfl (fun g4 => ?_) (fun g4 => ?_)
        · refine v_iload_n (n := 60) xB_49 dX5_word_59 rfl rfl ?_
          refine v_iconst (n := 61) xB_49 dX5_word_60 ⟨by decide, by decide⟩ rfl ?_
          refine v_ic_ne_y (t := 76) xB_49 dX5_word_61 (by decide) rfl (by decide) ?_
          refine v_iload_n (n := 77) xB_49 dX5_word_76 rfl rfl ?_
          refine v_iload_n (n := 78) xB_49 dX5_word_77 rfl rfl ?_
          refine v_max (n := 81) xB_49 dX5_word_78 xO_49 sp_5_81 rfl rfl ?_
          refine v_istore_n1 (n := 82) xB_49 dX5_word_81 rfl rfl ?_
          refine v_iinc2 (n := 85) xB_49 dX5_word_82 rfl (by first | omega | (simp only [sA_same, sA_s, ud_s, Int.reduceEq, if_true, if_false, ite_true, ite_false, ↓reduceIte, and_true, true_and, eq_self, Int.add_zero, Int.reduceAdd]; omega) | (simp (disch := omega) only [sA_same, sA_ne, ud_eq, ud_ne, Int.add_zero, Int.reduceAdd]; omega)) rfl ?_
          refine v_goto (t := 4) xB_49 dX5_word_85 (by decide) rfl ?_
          first
          | (have q : mt4 (m 54) (m 53 1) (m 53 2) 116 105 108 108 = 0 := by unfold mt4; rw [if_neg (c := nxt (m 54) (m 53 1) (m 53 2) = 116) (by omega)]
             rw [q, if_neg (by decide)] at o1
             exact vk_w2 hd hK hT (by split <;> omega) _ o1)
          | (have q : mt4 (m 54) (m 53 1) (m 53 2) 116 105 108 108 = 1 := by unfold mt4; rw [if_pos (c := nxt (m 54) (m 53 1) (m 53 2) = 116) (by omega), if_neg (c := nxt (m 54) (m 53 1) (m 53 2 + 1) = 105) (by omega)]
             rw [q, if_neg (by decide)] at o1
             exact vk_w2 hd hK hT (by split <;> omega) _ o1)
          | (have q : mt4 (m 54) (m 53 1) (m 53 2) 116 105 108 108 = 2 := by unfold mt4; rw [if_pos (c := nxt (m 54) (m 53 1) (m 53 2) = 116) (by omega), if_pos (c := nxt (m 54) (m 53 1) (m 53 2 + 1) = 105) (by omega), if_neg (c := nxt (m 54) (m 53 1) (m 53 2 + 2) = 108) (by omega)]
             rw [q, if_neg (by decide)] at o1
             exact vk_w2 hd hK hT (by split <;> omega) _ o1)
          | (have q : mt4 (m 54) (m 53 1) (m 53 2) 116 105 108 108 = 3 := by unfold mt4; rw [if_pos (c := nxt (m 54) (m 53 1) (m 53 2) = 116) (by omega), if_pos (c := nxt (m 54) (m 53 1) (m 53 2 + 1) = 105) (by omega), if_pos (c := nxt (m 54) (m 53 1) (m 53 2 + 2) = 108) (by omega), if_neg (c := nxt (m 54) (m 53 1) (m 53 2 + 3) = 108) (by omega)]
             rw [q, if_neg (by decide)] at o1
             exact vk_w2 hd hK hT (by split <;> omega) _ o1)
        · refine v_iinc3 (n := 56) xB_49 dX5_word_53 rfl (by first | omega | (simp only [sA_same, sA_s, ud_s, Int.reduceEq, if_true, if_false, ite_true, ite_false, ↓reduceIte, and_true, true_and, eq_self, Int.add_zero, Int.reduceAdd]; omega) | (simp (disch := omega) only [sA_same, sA_ne, ud_eq, ud_ne, Int.add_zero, Int.reduceAdd]; omega)) rfl ?_
          refine v_goto (t := 11) xB_49 dX5_word_56 (by decide) rfl ?_
          refine v_iload_n (n := 12) xB_49 dX5_word_11 rfl rfl ?_
          refine v_iconst (n := 13) xB_49 dX5_word_12 ⟨by decide, by decide⟩ rfl ?_
          refine v_ic_ge_n (n := 16) xB_49 dX5_word_13 (by decide) rfl (by decide) ?_
          refine v_aload_n (n := 17) xB_49 dX5_word_16 rfl rfl ?_
          refine v_gf_i (n := 20) (kz := 2) xB_49 dX5_word_17 xO_49 fl_5_28 fg_5_2 rfl (sh_53 _ _ _) rfl rfl ?_
          refine v_iload_n (n := 21) xB_49 dX5_word_20 rfl rfl ?_
          refine v_iadd (n := 22) xB_49 dX5_word_21 (by first | omega | (simp only [sA_same, sA_s, ud_s, Int.reduceEq, if_true, if_false, ite_true, ite_false, ↓reduceIte, and_true, true_and, eq_self, Int.add_zero, Int.reduceAdd]; omega) | (simp (disch := omega) only [sA_same, sA_ne, ud_eq, ud_ne, Int.add_zero, Int.reduceAdd]; omega)) rfl ?_
          refine v_aload_n (n := 23) xB_49 dX5_word_22 rfl rfl ?_
          refine v_gf_i (n := 26) (kz := 1) xB_49 dX5_word_23 xO_49 fl_5_59 fg_5_1 rfl (sh_53 _ _ _) rfl rfl ?_
          refine v_ic_ge (t := 59) (n := 29) xB_49 dX5_word_26 (by decide) rfl rfl (fun g5 => ?_) (fun g5 => ?_)
          · refine v_iload_n (n := 60) xB_49 dX5_word_59 rfl rfl ?_
            refine v_iconst (n := 61) xB_49 dX5_word_60 ⟨by decide, by decide⟩ rfl ?_
            refine v_ic_ne_y (t := 76) xB_49 dX5_word_61 (by decide) rfl (by decide) ?_
            refine v_iload_n (n := 77) xB_49 dX5_word_76 rfl rfl ?_
            refine v_iload_n (n := 78) xB_49 dX5_word_77 rfl rfl ?_
            refine v_max (n := 81) xB_49 dX5_word_78 xO_49 sp_5_81 rfl rfl ?_
            refine v_istore_n1 (n := 82) xB_49 dX5_word_81 rfl rfl ?_
            refine v_iinc2 (n := 85) xB_49 dX5_word_82 rfl (by first | omega | (simp only [sA_same, sA_s, ud_s, Int.reduceEq, if_true, if_false, ite_true, ite_false, ↓reduceIte, and_true, true_and, eq_self, Int.add_zero, Int.reduceAdd]; omega) | (simp (disch := omega) only [sA_same, sA_ne, ud_eq, ud_ne, Int.add_zero, Int.reduceAdd]; omega)) rfl ?_
            refine v_goto (t := 4) xB_49 dX5_word_85 (by decide) rfl ?_
            first
            | (have q : mt4 (m 54) (m 53 1) (m 53 2) 116 105 108 108 = 0 := by unfold mt4; rw [if_neg (c := nxt (m 54) (m 53 1) (m 53 2) = 116) (by omega)]
               rw [q, if_neg (by decide)] at o1
               exact vk_w2 hd hK hT (by split <;> omega) _ o1)
            | (have q : mt4 (m 54) (m 53 1) (m 53 2) 116 105 108 108 = 1 := by unfold mt4; rw [if_pos (c := nxt (m 54) (m 53 1) (m 53 2) = 116) (by omega), if_neg (c := nxt (m 54) (m 53 1) (m 53 2 + 1) = 105) (by omega)]
               rw [q, if_neg (by decide)] at o1
               exact vk_w2 hd hK hT (by split <;> omega) _ o1)
            | (have q : mt4 (m 54) (m 53 1) (m 53 2) 116 105 108 108 = 2 := by unfold mt4; rw [if_pos (c := nxt (m 54) (m 53 1) (m 53 2) = 116) (by omega), if_pos (c := nxt (m 54) (m 53 1) (m 53 2 + 1) = 105) (by omega), if_neg (c := nxt (m 54) (m 53 1) (m 53 2 + 2) = 108) (by omega)]
               rw [q, if_neg (by decide)] at o1
               exact vk_w2 hd hK hT (by split <;> omega) _ o1)
            | (have q : mt4 (m 54) (m 53 1) (m 53 2) 116 105 108 108 = 3 := by unfold mt4; rw [if_pos (c := nxt (m 54) (m 53 1) (m 53 2) = 116) (by omega), if_pos (c := nxt (m 54) (m 53 1) (m 53 2 + 1) = 105) (by omega), if_pos (c := nxt (m 54) (m 53 1) (m 53 2 + 2) = 108) (by omega), if_neg (c := nxt (m 54) (m 53 1) (m 53 2 + 3) = 108) (by omega)]
               rw [q, if_neg (by decide)] at o1
               exact vk_w2 hd hK hT (by split <;> omega) _ o1)
          · refine v_aload_n (n := 30) xB_49 dX5_word_29 rfl rfl ?_
            refine v_gf_s (n := 33) (kz := 0) xB_49 dX5_word_30 xO_49 fl_5_9 fg_5_0 (sh_53 _ _ _) rfl st_53_0 rfl ?_
            refine v_aload_n (n := 34) xB_49 dX5_word_33 rfl rfl ?_
            refine v_gf_i (n := 37) (kz := 2) xB_49 dX5_word_34 xO_49 fl_5_28 fg_5_2 rfl (sh_53 _ _ _) rfl rfl ?_
            refine v_iload_n (n := 38) xB_49 dX5_word_37 rfl rfl ?_
            refine v_iadd (n := 39) xB_49 dX5_word_38 (by first | omega | (simp only [sA_same, sA_s, ud_s, Int.reduceEq, if_true, if_false, ite_true, ite_false, ↓reduceIte, and_true, true_and, eq_self, Int.add_zero, Int.reduceAdd]; omega) | (simp (disch := omega) only [sA_same, sA_ne, ud_eq, ud_ne, Int.add_zero, Int.reduceAdd]; omega)) rfl ?_
            refine v_iaload (n := 40) (lz := 100) xB_49 dX5_word_39 (sh_54 _ _ _) rfl (by first | omega | (simp only [sA_same, sA_s, ud_s, Int.reduceEq, if_true, if_false, ite_true, ite_false, ↓reduceIte, and_true, true_and, eq_self, Int.add_zero, Int.reduceAdd]; omega) | (simp (disch := omega) only [sA_same, sA_ne, ud_eq, ud_ne, Int.add_zero, Int.reduceAdd]; omega)) rfl ?_
            refine v_ldc_r (n := 42) xB_49 dX5_word_40 xO_49 lc_5_109 rfl ?_
            refine v_iload_n (n := 43) xB_49 dX5_word_42 rfl rfl ?_
            refine v_iconst (n := 44) xB_49 dX5_word_43 ⟨by decide, by decide⟩ rfl ?_
            refine v_imul (n := 45) xB_49 dX5_word_44 (by first | omega | (simp only [sA_same, sA_s, ud_s, Int.reduceEq, if_true, if_false, ite_true, ite_false, ↓reduceIte, and_true, true_and, eq_self, Int.add_zero, Int.reduceAdd]; omega) | (simp (disch := omega) only [sA_same, sA_ne, ud_eq, ud_ne, Int.add_zero, Int.reduceAdd]; omega)) rfl ?_
            refine v_iload_n (n := 46) xB_49 dX5_word_45 rfl rfl ?_
            refine v_iadd (n := 47) xB_49 dX5_word_46 (by first | omega | (simp only [sA_same, sA_s, ud_s, Int.reduceEq, if_true, if_false, ite_true, ite_false, ↓reduceIte, and_true, true_and, eq_self, Int.add_zero, Int.reduceAdd]; omega) | (simp (disch := omega) only [sA_same, sA_ne, ud_eq, ud_ne, Int.add_zero, Int.reduceAdd]; omega)) rfl ?_
            refine v_call_t (cls := 0) (n := 50) xB_49 dX5_word_47 xO_49 iv_5_111 rfl (by first | omega | (simp only [sA_same, sA_s, ud_s, Int.reduceEq, if_true, if_false, ite_true, ite_false, ↓reduceIte, and_true, true_and, eq_self, Int.add_zero, Int.reduceAdd]; omega) | (simp (disch := omega) only [sA_same, sA_ne, ud_eq, ud_ne, Int.add_zero, Int.reduceAdd]; omega)) rfl rfl rfl ?_
            refine j_charAt (by omega) (Or.inl rfl) (sh_m20 _ _ _) (by simp only [Int.reduceNeg, Int.reduceSub, Int.reduceMul, Int.reduceAdd, Int.add_zero]; omega) (by simp only [Int.reduceNeg, Int.reduceSub, Int.reduceMul, Int.reduceAdd, Int.add_zero]; omega) ?_
            (try simp only [Int.reduceNeg, Int.reduceSub, Int.reduceMul, Int.reduceAdd, Int.add_zero])
            refine v_ic_ne (t := 59) (n := 53) xB_49 dX5_word_50 (by decide) rfl rfl (fun g6 => ?_) (fun g6 => ?_)
            · refine v_iload_n (n := 60) xB_49 dX5_word_59 rfl rfl ?_
              refine v_iconst (n := 61) xB_49 dX5_word_60 ⟨by decide, by decide⟩ rfl ?_
              refine v_ic_ne_y (t := 76) xB_49 dX5_word_61 (by decide) rfl (by decide) ?_
              refine v_iload_n (n := 77) xB_49 dX5_word_76 rfl rfl ?_
              refine v_iload_n (n := 78) xB_49 dX5_word_77 rfl rfl ?_
              refine v_max (n := 81) xB_49 dX5_word_78 xO_49 sp_5_81 rfl rfl ?_
              refine v_istore_n1 (n := 82) xB_49 dX5_word_81 rfl rfl ?_
              refine v_iinc2 (n := 85) xB_49 dX5_word_82 rfl (by first | omega | (simp only [sA_same, sA_s, ud_s, Int.reduceEq, if_true, if_false, ite_true, ite_false, ↓reduceIte, and_true, true_and, eq_self, Int.add_zero, Int.reduceAdd]; omega) | (simp (disch := omega) only [sA_same, sA_ne, ud_eq, ud_ne, Int.add_zero, Int.reduceAdd]; omega)) rfl ?_
              refine v_goto (t := 4) xB_49 dX5_word_85 (by decide) rfl ?_
              first
              | (have q : mt4 (m 54) (m 53 1) (m 53 2) 116 105 108 108 = 0 := by unfold mt4; rw [if_neg (c := nxt (m 54) (m 53 1) (m 53 2) = 116) (by omega)]
                 rw [q, if_neg (by decide)] at o1
                 exact vk_w2 hd hK hT (by split <;> omega) _ o1)
              | (have q : mt4 (m 54) (m 53 1) (m 53 2) 116 105 108 108 = 1 := by unfold mt4; rw [if_pos (c := nxt (m 54) (m 53 1) (m 53 2) = 116) (by omega), if_neg (c := nxt (m 54) (m 53 1) (m 53 2 + 1) = 105) (by omega)]
                 rw [q, if_neg (by decide)] at o1
                 exact vk_w2 hd hK hT (by split <;> omega) _ o1)
              | (have q : mt4 (m 54) (m 53 1) (m 53 2) 116 105 108 108 = 2 := by unfold mt4; rw [if_pos (c := nxt (m 54) (m 53 1) (m 53 2) = 116) (by omega), if_pos (c := nxt (m 54) (m 53 1) (m 53 2 + 1) = 105) (by omega), if_neg (c := nxt (m 54) (m 53 1) (m 53 2 + 2) = 108) (by omega)]
                 rw [q, if_neg (by decide)] at o1
                 exact vk_w2 hd hK hT (by split <;> omega) _ o1)
              | (have q : mt4 (m 54) (m 53 1) (m 53 2) 116 105 108 108 = 3 := by unfold mt4; rw [if_pos (c := nxt (m 54) (m 53 1) (m 53 2) = 116) (by omega), if_pos (c := nxt (m 54) (m 53 1) (m 53 2 + 1) = 105) (by omega), if_pos (c := nxt (m 54) (m 53 1) (m 53 2 + 2) = 108) (by omega), if_neg (c := nxt (m 54) (m 53 1) (m 53 2 + 3) = 108) (by omega)]
                 rw [q, if_neg (by decide)] at o1
                 exact vk_w2 hd hK hT (by split <;> omega) _ o1)
            · refine v_iinc3 (n := 56) xB_49 dX5_word_53 rfl (by first | omega | (simp only [sA_same, sA_s, ud_s, Int.reduceEq, if_true, if_false, ite_true, ite_false, ↓reduceIte, and_true, true_and, eq_self, Int.add_zero, Int.reduceAdd]; omega) | (simp (disch := omega) only [sA_same, sA_ne, ud_eq, ud_ne, Int.add_zero, Int.reduceAdd]; omega)) rfl ?_
              refine v_goto (t := 11) xB_49 dX5_word_56 (by decide) rfl ?_
              refine v_iload_n (n := 12) xB_49 dX5_word_11 rfl rfl ?_
              refine v_iconst (n := 13) xB_49 dX5_word_12 ⟨by decide, by decide⟩ rfl ?_
              refine v_ic_ge_n (n := 16) xB_49 dX5_word_13 (by decide) rfl (by decide) ?_
              refine v_aload_n (n := 17) xB_49 dX5_word_16 rfl rfl ?_
              refine v_gf_i (n := 20) (kz := 2) xB_49 dX5_word_17 xO_49 fl_5_28 fg_5_2 rfl (sh_53 _ _ _) rfl rfl ?_
              refine v_iload_n (n := 21) xB_49 dX5_word_20 rfl rfl ?_
              refine v_iadd (n := 22) xB_49 dX5_word_21 (by first | omega | (simp only [sA_same, sA_s, ud_s, Int.reduceEq, if_true, if_false, ite_true, ite_false, ↓reduceIte, and_true, true_and, eq_self, Int.add_zero, Int.reduceAdd]; omega) | (simp (disch := omega) only [sA_same, sA_ne, ud_eq, ud_ne, Int.add_zero, Int.reduceAdd]; omega)) rfl ?_
              refine v_aload_n (n := 23) xB_49 dX5_word_22 rfl rfl ?_
              refine v_gf_i (n := 26) (kz := 1) xB_49 dX5_word_23 xO_49 fl_5_59 fg_5_1 rfl (sh_53 _ _ _) rfl rfl ?_
              refine v_ic_ge (t := 59) (n := 29) xB_49 dX5_word_26 (by decide) rfl rfl (fun g7 => ?_) (fun g7 => ?_)
              · refine v_iload_n (n := 60) xB_49 dX5_word_59 rfl rfl ?_
                refine v_iconst (n := 61) xB_49 dX5_word_60 ⟨by decide, by decide⟩ rfl ?_
                refine v_ic_ne_y (t := 76) xB_49 dX5_word_61 (by decide) rfl (by decide) ?_
                refine v_iload_n (n := 77) xB_49 dX5_word_76 rfl rfl ?_
                refine v_iload_n (n := 78) xB_49 dX5_word_77 rfl rfl ?_
                refine v_max (n := 81) xB_49 dX5_word_78 xO_49 sp_5_81 rfl rfl ?_
                refine v_istore_n1 (n := 82) xB_49 dX5_word_81 rfl rfl ?_
                refine v_iinc2 (n := 85) xB_49 dX5_word_82 rfl (by first | omega | (simp only [sA_same, sA_s, ud_s, Int.reduceEq, if_true, if_false, ite_true, ite_false, ↓reduceIte, and_true, true_and, eq_self, Int.add_zero, Int.reduceAdd]; omega) | (simp (disch := omega) only [sA_same, sA_ne, ud_eq, ud_ne, Int.add_zero, Int.reduceAdd]; omega)) rfl ?_
                refine v_goto (t := 4) xB_49 dX5_word_85 (by decide) rfl ?_
                first
                | (have q : mt4 (m 54) (m 53 1) (m 53 2) 116 105 108 108 = 0 := by unfold mt4; rw [if_neg (c := nxt (m 54) (m 53 1) (m 53 2) = 116) (by omega)]
                   rw [q, if_neg (by decide)] at o1
                   exact vk_w2 hd hK hT (by split <;> omega) _ o1)
                | (have q : mt4 (m 54) (m 53 1) (m 53 2) 116 105 108 108 = 1 := by unfold mt4; rw [if_pos (c := nxt (m 54) (m 53 1) (m 53 2) = 116) (by omega), if_neg (c := nxt (m 54) (m 53 1) (m 53 2 + 1) = 105) (by omega)]
                   rw [q, if_neg (by decide)] at o1
                   exact vk_w2 hd hK hT (by split <;> omega) _ o1)
                | (have q : mt4 (m 54) (m 53 1) (m 53 2) 116 105 108 108 = 2 := by unfold mt4; rw [if_pos (c := nxt (m 54) (m 53 1) (m 53 2) = 116) (by omega), if_pos (c := nxt (m 54) (m 53 1) (m 53 2 + 1) = 105) (by omega), if_neg (c := nxt (m 54) (m 53 1) (m 53 2 + 2) = 108) (by omega)]
                   rw [q, if_neg (by decide)] at o1
                   exact vk_w2 hd hK hT (by split <;> omega) _ o1)
                | (have q : mt4 (m 54) (m 53 1) (m 53 2) 116 105 108 108 = 3 := by unfold mt4; rw [if_pos (c := nxt (m 54) (m 53 1) (m 53 2) = 116) (by omega), if_pos (c := nxt (m 54) (m 53 1) (m 53 2 + 1) = 105) (by omega), if_pos (c := nxt (m 54) (m 53 1) (m 53 2 + 2) = 108) (by omega), if_neg (c := nxt (m 54) (m 53 1) (m 53 2 + 3) = 108) (by omega)]
                   rw [q, if_neg (by decide)] at o1
                   exact vk_w2 hd hK hT (by split <;> omega) _ o1)
              · refine v_aload_n (n := 30) xB_49 dX5_word_29 rfl rfl ?_
                refine v_gf_s (n := 33) (kz := 0) xB_49 dX5_word_30 xO_49 fl_5_9 fg_5_0 (sh_53 _ _ _) rfl st_53_0 rfl ?_
                refine v_aload_n (n := 34) xB_49 dX5_word_33 rfl rfl ?_
                refine v_gf_i (n := 37) (kz := 2) xB_49 dX5_word_34 xO_49 fl_5_28 fg_5_2 rfl (sh_53 _ _ _) rfl rfl ?_
                refine v_iload_n (n := 38) xB_49 dX5_word_37 rfl rfl ?_
                refine v_iadd (n := 39) xB_49 dX5_word_38 (by first | omega | (simp only [sA_same, sA_s, ud_s, Int.reduceEq, if_true, if_false, ite_true, ite_false, ↓reduceIte, and_true, true_and, eq_self, Int.add_zero, Int.reduceAdd]; omega) | (simp (disch := omega) only [sA_same, sA_ne, ud_eq, ud_ne, Int.add_zero, Int.reduceAdd]; omega)) rfl ?_
                refine v_iaload (n := 40) (lz := 100) xB_49 dX5_word_39 (sh_54 _ _ _) rfl (by first | omega | (simp only [sA_same, sA_s, ud_s, Int.reduceEq, if_true, if_false, ite_true, ite_false, ↓reduceIte, and_true, true_and, eq_self, Int.add_zero, Int.reduceAdd]; omega) | (simp (disch := omega) only [sA_same, sA_ne, ud_eq, ud_ne, Int.add_zero, Int.reduceAdd]; omega)) rfl ?_
                refine v_ldc_r (n := 42) xB_49 dX5_word_40 xO_49 lc_5_109 rfl ?_
                refine v_iload_n (n := 43) xB_49 dX5_word_42 rfl rfl ?_
                refine v_iconst (n := 44) xB_49 dX5_word_43 ⟨by decide, by decide⟩ rfl ?_
                refine v_imul (n := 45) xB_49 dX5_word_44 (by first | omega | (simp only [sA_same, sA_s, ud_s, Int.reduceEq, if_true, if_false, ite_true, ite_false, ↓reduceIte, and_true, true_and, eq_self, Int.add_zero, Int.reduceAdd]; omega) | (simp (disch := omega) only [sA_same, sA_ne, ud_eq, ud_ne, Int.add_zero, Int.reduceAdd]; omega)) rfl ?_
                refine v_iload_n (n := 46) xB_49 dX5_word_45 rfl rfl ?_
                refine v_iadd (n := 47) xB_49 dX5_word_46 (by first | omega | (simp only [sA_same, sA_s, ud_s, Int.reduceEq, if_true, if_false, ite_true, ite_false, ↓reduceIte, and_true, true_and, eq_self, Int.add_zero, Int.reduceAdd]; omega) | (simp (disch := omega) only [sA_same, sA_ne, ud_eq, ud_ne, Int.add_zero, Int.reduceAdd]; omega)) rfl ?_
                refine v_call_t (cls := 0) (n := 50) xB_49 dX5_word_47 xO_49 iv_5_111 rfl (by first | omega | (simp only [sA_same, sA_s, ud_s, Int.reduceEq, if_true, if_false, ite_true, ite_false, ↓reduceIte, and_true, true_and, eq_self, Int.add_zero, Int.reduceAdd]; omega) | (simp (disch := omega) only [sA_same, sA_ne, ud_eq, ud_ne, Int.add_zero, Int.reduceAdd]; omega)) rfl rfl rfl ?_
                refine j_charAt (by omega) (Or.inl rfl) (sh_m20 _ _ _) (by simp only [Int.reduceNeg, Int.reduceSub, Int.reduceMul, Int.reduceAdd, Int.add_zero]; omega) (by simp only [Int.reduceNeg, Int.reduceSub, Int.reduceMul, Int.reduceAdd, Int.add_zero]; omega) ?_
                (try simp only [Int.reduceNeg, Int.reduceSub, Int.reduceMul, Int.reduceAdd, Int.add_zero])
                refine v_ic_ne (t := 59) (n := 53) xB_49 dX5_word_50 (by decide) rfl rfl (fun g8 => ?_) (fun g8 => ?_)
                · refine v_iload_n (n := 60) xB_49 dX5_word_59 rfl rfl ?_
                  refine v_iconst (n := 61) xB_49 dX5_word_60 ⟨by decide, by decide⟩ rfl ?_
                  refine v_ic_ne_y (t := 76) xB_49 dX5_word_61 (by decide) rfl (by decide) ?_
                  refine v_iload_n (n := 77) xB_49 dX5_word_76 rfl rfl ?_
                  refine v_iload_n (n := 78) xB_49 dX5_word_77 rfl rfl ?_
                  refine v_max (n := 81) xB_49 dX5_word_78 xO_49 sp_5_81 rfl rfl ?_
                  refine v_istore_n1 (n := 82) xB_49 dX5_word_81 rfl rfl ?_
                  refine v_iinc2 (n := 85) xB_49 dX5_word_82 rfl (by first | omega | (simp only [sA_same, sA_s, ud_s, Int.reduceEq, if_true, if_false, ite_true, ite_false, ↓reduceIte, and_true, true_and, eq_self, Int.add_zero, Int.reduceAdd]; omega) | (simp (disch := omega) only [sA_same, sA_ne, ud_eq, ud_ne, Int.add_zero, Int.reduceAdd]; omega)) rfl ?_
                  refine v_goto (t := 4) xB_49 dX5_word_85 (by decide) rfl ?_
                  first
                  | (have q : mt4 (m 54) (m 53 1) (m 53 2) 116 105 108 108 = 0 := by unfold mt4; rw [if_neg (c := nxt (m 54) (m 53 1) (m 53 2) = 116) (by omega)]
                     rw [q, if_neg (by decide)] at o1
                     exact vk_w2 hd hK hT (by split <;> omega) _ o1)
                  | (have q : mt4 (m 54) (m 53 1) (m 53 2) 116 105 108 108 = 1 := by unfold mt4; rw [if_pos (c := nxt (m 54) (m 53 1) (m 53 2) = 116) (by omega), if_neg (c := nxt (m 54) (m 53 1) (m 53 2 + 1) = 105) (by omega)]
                     rw [q, if_neg (by decide)] at o1
                     exact vk_w2 hd hK hT (by split <;> omega) _ o1)
                  | (have q : mt4 (m 54) (m 53 1) (m 53 2) 116 105 108 108 = 2 := by unfold mt4; rw [if_pos (c := nxt (m 54) (m 53 1) (m 53 2) = 116) (by omega), if_pos (c := nxt (m 54) (m 53 1) (m 53 2 + 1) = 105) (by omega), if_neg (c := nxt (m 54) (m 53 1) (m 53 2 + 2) = 108) (by omega)]
                     rw [q, if_neg (by decide)] at o1
                     exact vk_w2 hd hK hT (by split <;> omega) _ o1)
                  | (have q : mt4 (m 54) (m 53 1) (m 53 2) 116 105 108 108 = 3 := by unfold mt4; rw [if_pos (c := nxt (m 54) (m 53 1) (m 53 2) = 116) (by omega), if_pos (c := nxt (m 54) (m 53 1) (m 53 2 + 1) = 105) (by omega), if_pos (c := nxt (m 54) (m 53 1) (m 53 2 + 2) = 108) (by omega), if_neg (c := nxt (m 54) (m 53 1) (m 53 2 + 3) = 108) (by omega)]
                     rw [q, if_neg (by decide)] at o1
                     exact vk_w2 hd hK hT (by split <;> omega) _ o1)
                · refine v_iinc3 (n := 56) xB_49 dX5_word_53 rfl (by first | omega | (simp only [sA_same, sA_s, ud_s, Int.reduceEq, if_true, if_false, ite_true, ite_false, ↓reduceIte, and_true, true_and, eq_self, Int.add_zero, Int.reduceAdd]; omega) | (simp (disch := omega) only [sA_same, sA_ne, ud_eq, ud_ne, Int.add_zero, Int.reduceAdd]; omega)) rfl ?_
                  refine v_goto (t := 11) xB_49 dX5_word_56 (by decide) rfl ?_
                  refine v_iload_n (n := 12) xB_49 dX5_word_11 rfl rfl ?_
                  refine v_iconst (n := 13) xB_49 dX5_word_12 ⟨by decide, by decide⟩ rfl ?_
                  refine v_ic_ge_y (t := 59) xB_49 dX5_word_13 (by decide) rfl (by decide) ?_
                  refine v_iload_n (n := 60) xB_49 dX5_word_59 rfl rfl ?_
                  refine v_iconst (n := 61) xB_49 dX5_word_60 ⟨by decide, by decide⟩ rfl ?_
                  refine v_ic_ne_n (n := 64) xB_49 dX5_word_61 (by decide) rfl (by decide) ?_
                  refine v_aload_n (n := 65) xB_49 dX5_word_64 rfl rfl ?_
                  refine v_dup (n := 66) xB_49 dX5_word_65 rfl rfl ?_
                  refine v_gf_i (n := 69) (kz := 2) xB_49 dX5_word_66 xO_49 fl_5_28 fg_5_2 rfl (sh_53 _ _ _) rfl rfl ?_
                  refine v_iconst (n := 70) xB_49 dX5_word_69 ⟨by decide, by decide⟩ rfl ?_
                  refine v_iadd (n := 71) xB_49 dX5_word_70 (by first | omega | (simp only [sA_same, sA_s, ud_s, Int.reduceEq, if_true, if_false, ite_true, ite_false, ↓reduceIte, and_true, true_and, eq_self, Int.add_zero, Int.reduceAdd]; omega) | (simp (disch := omega) only [sA_same, sA_ne, ud_eq, ud_ne, Int.add_zero, Int.reduceAdd]; omega)) rfl ?_
                  refine v_pf_i (n := 74) (kz := 2) xB_49 dX5_word_71 xO_49 fl_5_28 fg_5_2 (Or.inl fn_5_2) (sh_53 _ _ _) (by decide) rfl rfl ?_
                  refine v_iload_n (n := 75) xB_49 dX5_word_74 rfl rfl ?_
                  refine v_ireturn0 xB_49 dX5_word_75 xK_49 ?_
                  have q : mt4 (m 54) (m 53 1) (m 53 2) 116 105 108 108 = 4 := by unfold mt4; rw [if_pos (c := nxt (m 54) (m 53 1) (m 53 2) = 116) (by omega), if_pos (c := nxt (m 54) (m 53 1) (m 53 2 + 1) = 105) (by omega), if_pos (c := nxt (m 54) (m 53 1) (m 53 2 + 2) = 108) (by omega), if_pos (c := nxt (m 54) (m 53 1) (m 53 2 + 3) = 108) (by omega)]
                  rw [q, if_pos rfl] at o1
                  exact o1
set_option maxHeartbeats 1000000 in
theorem vk_w0 {d : Nat} {m : PM} {dy : List (Nat × Nat)} {L : Nat} {Q : Option PV → PS → Prop} {mo : Int} (hd : 5 ≤ d) (hK : KT m) (hT : (0 ≤ m 53 1 ∧ m 53 1 ≤ 100) ∧ (0 ≤ m 53 2 ∧ m 53 2 ≤ m 53 1)) (hm : 0 ≤ mo ∧ mo ≤ 4) (x3 : Option PV) (o1 : Q (some (.inl (wdR (m 54) (m 53 1) (m 53 2) 4 mo).1)) (setA m 53 (ud (m 53) 2 (wdR (m 54) (m 53 1) (m 53 2) 4 mo).2), (none, (dy, L)))) : V d 49 (4, ([some (.inr (.inr 53)), some (.inl mo), some (.inl 0), x3], ([], (m, (none, (dy, L)))))) Q := by
  have l0 : m (-20) 0 = 102 := hK.1 0 (by decide)
  have x0 : m 53 2 < m 53 1 → nxt (m 54) (m 53 1) (m 53 2) = m 54 (m 53 2) := fun h => nx_t h
  have y0 : ¬ m 53 2 < m 53 1 → nxt (m 54) (m 53 1) (m 53 2) = -1 := fun h => nx_f h
  have l1 : m (-20) 1 = 114 := hK.1 1 (by decide)
  have x1 : m 53 2 + 1 < m 53 1 → nxt (m 54) (m 53 1) (m 53 2 + 1) = m 54 (m 53 2 + 1) := fun h => nx_t h
  have y1 : ¬ m 53 2 + 1 < m 53 1 → nxt (m 54) (m 53 1) (m 53 2 + 1) = -1 := fun h => nx_f h
  have l2 : m (-20) 2 = 111 := hK.1 2 (by decide)
  have x2 : m 53 2 + 2 < m 53 1 → nxt (m 54) (m 53 1) (m 53 2 + 2) = m 54 (m 53 2 + 2) := fun h => nx_t h
  have y2 : ¬ m 53 2 + 2 < m 53 1 → nxt (m 54) (m 53 1) (m 53 2 + 2) = -1 := fun h => nx_f h
  have l3 : m (-20) 3 = 109 := hK.1 3 (by decide)
  have x3 : m 53 2 + 3 < m 53 1 → nxt (m 54) (m 53 1) (m 53 2 + 3) = m 54 (m 53 2 + 3) := fun h => nx_t h
  have y3 : ¬ m 53 2 + 3 < m 53 1 → nxt (m 54) (m 53 1) (m 53 2 + 3) = -1 := fun h => nx_f h
  have hw : wdR (m 54) (m 53 1) (m 53 2) 4 mo = if mt4 (m 54) (m 53 1) (m 53 2) 102 114 111 109 = 4 then (0, m 53 2 + 4) else wdR (m 54) (m 53 1) (m 53 2) 3 (if mo < mt4 (m 54) (m 53 1) (m 53 2) 102 114 111 109 then mt4 (m 54) (m 53 1) (m 53 2) 102 114 111 109 else mo) := by rw [← mw_0]; rfl
  rw [hw] at o1
  clear hw
  refine v_iload_n (n := 5) xB_49 dX5_word_4 rfl rfl ?_
  refine v_iconst (n := 6) xB_49 dX5_word_5 ⟨by decide, by decide⟩ rfl ?_
  refine v_ic_ge_n (n := 9) xB_49 dX5_word_6 (by decide) rfl (by decide) ?_
  refine v_iconst (n := 10) xB_49 dX5_word_9 ⟨by decide, by decide⟩ rfl ?_
  refine v_istore_n3 (n := 11) xB_49 dX5_word_10 rfl rfl ?_
  refine v_iload_n (n := 12) xB_49 dX5_word_11 rfl rfl ?_
  refine v_iconst (n := 13) xB_49 dX5_word_12 ⟨by decide, by decide⟩ rfl ?_
  refine v_ic_ge_n (n := 16) xB_49 dX5_word_13 (by decide) rfl (by decide) ?_
  refine v_aload_n (n := 17) xB_49 dX5_word_16 rfl rfl ?_
  refine v_gf_i (n := 20) (kz := 2) xB_49 dX5_word_17 xO_49 fl_5_28 fg_5_2 rfl (sh_53 _ _ _) rfl rfl ?_
  refine v_iload_n (n := 21) xB_49 dX5_word_20 rfl rfl ?_
  refine v_iadd (n := 22) xB_49 dX5_word_21 (by first | omega | (simp only [sA_same, sA_s, ud_s, Int.reduceEq, if_true, if_false, ite_true, ite_false, ↓reduceIte, and_true, true_and, eq_self, Int.add_zero, Int.reduceAdd]; omega) | (simp (disch := omega) only [sA_same, sA_ne, ud_eq, ud_ne, Int.add_zero, Int.reduceAdd]; omega)) rfl ?_
  refine v_aload_n (n := 23) xB_49 dX5_word_22 rfl rfl ?_
  refine v_gf_i (n := 26) (kz := 1) xB_49 dX5_word_23 xO_49 fl_5_59 fg_5_1 rfl (sh_53 _ _ _) rfl rfl ?_
  refine v_ic_ge (t := 59) (n := 29) xB_49 dX5_word_26 (by decide) rfl rfl (fun g1 => ?_) (fun g1 => ?_)
  · refine v_iload_n (n := 60) xB_49 dX5_word_59 rfl rfl ?_
    refine v_iconst (n := 61) xB_49 dX5_word_60 ⟨by decide, by decide⟩ rfl ?_
    refine v_ic_ne_y (t := 76) xB_49 dX5_word_61 (by decide) rfl (by decide) ?_
    refine v_iload_n (n := 77) xB_49 dX5_word_76 rfl rfl ?_
    refine v_iload_n (n := 78) xB_49 dX5_word_77 rfl rfl ?_
    refine v_max (n := 81) xB_49 dX5_word_78 xO_49 sp_5_81 rfl rfl ?_
    refine v_istore_n1 (n := 82) xB_49 dX5_word_81 rfl rfl ?_
    refine v_iinc2 (n := 85) xB_49 dX5_word_82 rfl (by first | omega | (simp only [sA_same, sA_s, ud_s, Int.reduceEq, if_true, if_false, ite_true, ite_false, ↓reduceIte, and_true, true_and, eq_self, Int.add_zero, Int.reduceAdd]; omega) | (simp (disch := omega) only [sA_same, sA_ne, ud_eq, ud_ne, Int.add_zero, Int.reduceAdd]; omega)) rfl ?_
    refine v_goto (t := 4) xB_49 dX5_word_85 (by decide) rfl ?_
    first
    | (have q : mt4 (m 54) (m 53 1) (m 53 2) 102 114 111 109 = 0 := by unfold mt4; rw [if_neg (c := nxt (m 54) (m 53 1) (m 53 2) = 102) (by omega)]
       rw [q, if_neg (by decide)] at o1
       exact vk_w1 hd hK hT (by split <;> omega) _ o1)
    | (have q : mt4 (m 54) (m 53 1) (m 53 2) 102 114 111 109 = 1 := by unfold mt4; rw [if_pos (c := nxt (m 54) (m 53 1) (m 53 2) = 102) (by omega), if_neg (c := nxt (m 54) (m 53 1) (m 53 2 + 1) = 114) (by omega)]
       rw [q, if_neg (by decide)] at o1
       exact vk_w1 hd hK hT (by split <;> omega) _ o1)
    | (have q : mt4 (m 54) (m 53 1) (m 53 2) 102 114 111 109 = 2 := by unfold mt4; rw [if_pos (c := nxt (m 54) (m 53 1) (m 53 2) = 102) (by omega), if_pos (c := nxt (m 54) (m 53 1) (m 53 2 + 1) = 114) (by omega), if_neg (c := nxt (m 54) (m 53 1) (m 53 2 + 2) = 111) (by omega)]
       rw [q, if_neg (by decide)] at o1
       exact vk_w1 hd hK hT (by split <;> omega) _ o1)
    | (have q : mt4 (m 54) (m 53 1) (m 53 2) 102 114 111 109 = 3 := by unfold mt4; rw [if_pos (c := nxt (m 54) (m 53 1) (m 53 2) = 102) (by omega), if_pos (c := nxt (m 54) (m 53 1) (m 53 2 + 1) = 114) (by omega), if_pos (c := nxt (m 54) (m 53 1) (m 53 2 + 2) = 111) (by omega), if_neg (c := nxt (m 54) (m 53 1) (m 53 2 + 3) = 109) (by omega)]
       rw [q, if_neg (by decide)] at o1
       exact vk_w1 hd hK hT (by split <;> omega) _ o1)
  · refine v_aload_n (n := 30) xB_49 dX5_word_29 rfl rfl ?_
    refine v_gf_s (n := 33) (kz := 0) xB_49 dX5_word_30 xO_49 fl_5_9 fg_5_0 (sh_53 _ _ _) rfl st_53_0 rfl ?_
    refine v_aload_n (n := 34) xB_49 dX5_word_33 rfl rfl ?_
    refine v_gf_i (n := 37) (kz := 2) xB_49 dX5_word_34 xO_49 fl_5_28 fg_5_2 rfl (sh_53 _ _ _) rfl rfl ?_
    refine v_iload_n (n := 38) xB_49 dX5_word_37 rfl rfl ?_
    refine v_iadd (n := 39) xB_49 dX5_word_38 (by first | omega | (simp only [sA_same, sA_s, ud_s, Int.reduceEq, if_true, if_false, ite_true, ite_false, ↓reduceIte, and_true, true_and, eq_self, Int.add_zero, Int.reduceAdd]; omega) | (simp (disch := omega) only [sA_same, sA_ne, ud_eq, ud_ne, Int.add_zero, Int.reduceAdd]; omega)) rfl ?_
    refine v_iaload (n := 40) (lz := 100) xB_49 dX5_word_39 (sh_54 _ _ _) rfl (by first | omega | (simp only [sA_same, sA_s, ud_s, Int.reduceEq, if_true, if_false, ite_true, ite_false, ↓reduceIte, and_true, true_and, eq_self, Int.add_zero, Int.reduceAdd]; omega) | (simp (disch := omega) only [sA_same, sA_ne, ud_eq, ud_ne, Int.add_zero, Int.reduceAdd]; omega)) rfl ?_
    refine v_ldc_r (n := 42) xB_49 dX5_word_40 xO_49 lc_5_109 rfl ?_
    refine v_iload_n (n := 43) xB_49 dX5_word_42 rfl rfl ?_
    refine v_iconst (n := 44) xB_49 dX5_word_43 ⟨by decide, by decide⟩ rfl ?_
    refine v_imul (n := 45) xB_49 dX5_word_44 (by first | omega | (simp only [sA_same, sA_s, ud_s, Int.reduceEq, if_true, if_false, ite_true, ite_false, ↓reduceIte, and_true, true_and, eq_self, Int.add_zero, Int.reduceAdd]; omega) | (simp (disch := omega) only [sA_same, sA_ne, ud_eq, ud_ne, Int.add_zero, Int.reduceAdd]; omega)) rfl ?_
    refine v_iload_n (n := 46) xB_49 dX5_word_45 rfl rfl ?_
    refine v_iadd (n := 47) xB_49 dX5_word_46 (by first | omega | (simp only [sA_same, sA_s, ud_s, Int.reduceEq, if_true, if_false, ite_true, ite_false, ↓reduceIte, and_true, true_and, eq_self, Int.add_zero, Int.reduceAdd]; omega) | (simp (disch := omega) only [sA_same, sA_ne, ud_eq, ud_ne, Int.add_zero, Int.reduceAdd]; omega)) rfl ?_
    refine v_call_t (cls := 0) (n := 50) xB_49 dX5_word_47 xO_49 iv_5_111 rfl (by first | omega | (simp only [sA_same, sA_s, ud_s, Int.reduceEq, if_true, if_false, ite_true, ite_false, ↓reduceIte, and_true, true_and, eq_self, Int.add_zero, Int.reduceAdd]; omega) | (simp (disch := omega) only [sA_same, sA_ne, ud_eq, ud_ne, Int.add_zero, Int.reduceAdd]; omega)) rfl rfl rfl ?_
    refine j_charAt (by omega) (Or.inl rfl) (sh_m20 _ _ _) (by simp only [Int.reduceNeg, Int.reduceSub, Int.reduceMul, Int.reduceAdd, Int.add_zero]; omega) (by simp only [Int.reduceNeg, Int.reduceSub, Int.reduceMul, Int.reduceAdd, Int.add_zero]; omega) ?_
    (try simp only [Int.reduceNeg, Int.reduceSub, Int.reduceMul, Int.reduceAdd, Int.add_zero])
    refine v_ic_ne (t := 59) (n := 53) xB_49 dX5_word_50 (by decide) rfl rfl (fun g2 => ?_) (fun g2 => ?_)
    · refine v_iload_n (n := 60) xB_49 dX5_word_59 rfl rfl ?_
      refine v_iconst (n := 61) xB_49 dX5_word_60 ⟨by decide, by decide⟩ rfl ?_
      refine v_ic_ne_y (t := 76) xB_49 dX5_word_61 (by decide) rfl (by decide) ?_
      refine v_iload_n (n := 77) xB_49 dX5_word_76 rfl rfl ?_
      refine v_iload_n (n := 78) xB_49 dX5_word_77 rfl rfl ?_
      refine v_max (n := 81) xB_49 dX5_word_78 xO_49 sp_5_81 rfl rfl ?_
      refine v_istore_n1 (n := 82) xB_49 dX5_word_81 rfl rfl ?_
      refine v_iinc2 (n := 85) xB_49 dX5_word_82 rfl (by first | omega | (simp only [sA_same, sA_s, ud_s, Int.reduceEq, if_true, if_false, ite_true, ite_false, ↓reduceIte, and_true, true_and, eq_self, Int.add_zero, Int.reduceAdd]; omega) | (simp (disch := omega) only [sA_same, sA_ne, ud_eq, ud_ne, Int.add_zero, Int.reduceAdd]; omega)) rfl ?_
      refine v_goto (t := 4) xB_49 dX5_word_85 (by decide) rfl ?_
      first
      | (have q : mt4 (m 54) (m 53 1) (m 53 2) 102 114 111 109 = 0 := by unfold mt4; rw [if_neg (c := nxt (m 54) (m 53 1) (m 53 2) = 102) (by omega)]
         rw [q, if_neg (by decide)] at o1
         exact vk_w1 hd hK hT (by split <;> omega) _ o1)
      | (have q : mt4 (m 54) (m 53 1) (m 53 2) 102 114 111 109 = 1 := by unfold mt4; rw [if_pos (c := nxt (m 54) (m 53 1) (m 53 2) = 102) (by omega), if_neg (c := nxt (m 54) (m 53 1) (m 53 2 + 1) = 114) (by omega)]
         rw [q, if_neg (by decide)] at o1
         exact vk_w1 hd hK hT (by split <;> omega) _ o1)
      | (have q : mt4 (m 54) (m 53 1) (m 53 2) 102 114 111 109 = 2 := by unfold mt4; rw [if_pos (c := nxt (m 54) (m 53 1) (m 53 2) = 102) (by omega), if_pos (c := nxt (m 54) (m 53 1) (m 53 2 + 1) = 114) (by omega), if_neg (c := nxt (m 54) (m 53 1) (m 53 2 + 2) = 111) (by omega)]
         rw [q, if_neg (by decide)] at o1
         exact vk_w1 hd hK hT (by split <;> omega) _ o1)
      | (have q : mt4 (m 54) (m 53 1) (m 53 2) 102 114 111 109 = 3 := by unfold mt4; rw [if_pos (c := nxt (m 54) (m 53 1) (m 53 2) = 102) (by omega), if_pos (c := nxt (m 54) (m 53 1) (m 53 2 + 1) = 114) (by omega), if_pos (c := nxt (m 54) (m 53 1) (m 53 2 + 2) = 111) (by omega), if_neg (c := nxt (m 54) (m 53 1) (m 53 2 + 3) = 109) (by omega)]
         rw [q, if_neg (by decide)] at o1
         exact vk_w1 hd hK hT (by split <;> omega) _ o1)
    · refine v_iinc3 (n := 56) xB_49 dX5_word_53 rfl (by first | omega | (simp only [sA_same, sA_s, ud_s, Int.reduceEq, if_true, if_false, ite_true, ite_false, ↓reduceIte, and_true, true_and, eq_self, Int.add_zero, Int.reduceAdd]; omega) | (simp (disch := omega) only [sA_same, sA_ne, ud_eq, ud_ne, Int.add_zero, Int.reduceAdd]; omega)) rfl ?_
      refine v_goto (t := 11) xB_49 dX5_word_56 (by decide) rfl ?_
      refine v_iload_n (n := 12) xB_49 dX5_word_11 rfl rfl ?_
      refine v_iconst (n := 13) xB_49 dX5_word_12 ⟨by decide, by decide⟩ rfl ?_
      refine v_ic_ge_n (n := 16) xB_49 dX5_word_13 (by decide) rfl (by decide) ?_
      refine v_aload_n (n := 17) xB_49 dX5_word_16 rfl rfl ?_
      refine v_gf_i (n := 20) (kz := 2) xB_49 dX5_word_17 xO_49 fl_5_28 fg_5_2 rfl (sh_53 _ _ _) rfl rfl ?_
      refine v_iload_n (n := 21) xB_49 dX5_word_20 rfl rfl ?_
      refine v_iadd (n := 22) xB_49 dX5_word_21 (by first | omega | (simp only [sA_same, sA_s, ud_s, Int.reduceEq, if_true, if_false, ite_true, ite_false, ↓reduceIte, and_true, true_and, eq_self, Int.add_zero, Int.reduceAdd]; omega) | (simp (disch := omega) only [sA_same, sA_ne, ud_eq, ud_ne, Int.add_zero, Int.reduceAdd]; omega)) rfl ?_
      refine v_aload_n (n := 23) xB_49 dX5_word_22 rfl rfl ?_
      refine v_gf_i (n := 26) (kz := 1) xB_49 dX5_word_23 xO_49 fl_5_59 fg_5_1 rfl (sh_53 _ _ _) rfl rfl ?_
      refine v_ic_ge (t := 59) (n := 29) xB_49 dX5_word_26 (by decide) rfl rfl (fun g3 => ?_) (fun g3 => ?_)
      · refine v_iload_n (n := 60) xB_49 dX5_word_59 rfl rfl ?_
        refine v_iconst (n := 61) xB_49 dX5_word_60 ⟨by decide, by decide⟩ rfl ?_
        refine v_ic_ne_y (t := 76) xB_49 dX5_word_61 (by decide) rfl (by decide) ?_
        refine v_iload_n (n := 77) xB_49 dX5_word_76 rfl rfl ?_
        refine v_iload_n (n := 78) xB_49 dX5_word_77 rfl rfl ?_
        refine v_max (n := 81) xB_49 dX5_word_78 xO_49 sp_5_81 rfl rfl ?_
        refine v_istore_n1 (n := 82) xB_49 dX5_word_81 rfl rfl ?_
        refine v_iinc2 (n := 85) xB_49 dX5_word_82 rfl (by first | omega | (simp only [sA_same, sA_s, ud_s, Int.reduceEq, if_true, if_false, ite_true, ite_false, ↓reduceIte, and_true, true_and, eq_self, Int.add_zero, Int.reduceAdd]; omega) | (simp (disch := omega) only [sA_same, sA_ne, ud_eq, ud_ne, Int.add_zero, Int.reduceAdd]; omega)) rfl ?_
        refine v_goto (t := 4) xB_49 dX5_word_85 (by decide) rfl ?_
        first
        | (have q : mt4 (m 54) (m 53 1) (m 53 2) 102 114 111 109 = 0 := by unfold mt4; rw [if_neg (c := nxt (m 54) (m 53 1) (m 53 2) = 102) (by omega)]
           rw [q, if_neg (by decide)] at o1
           exact vk_w1 hd hK hT (by split <;> omega) _ o1)
        | (have q : mt4 (m 54) (m 53 1) (m 53 2) 102 114 111 109 = 1 := by unfold mt4; rw [if_pos (c := nxt (m 54) (m 53 1) (m 53 2) = 102) (by omega), if_neg (c := nxt (m 54) (m 53 1) (m 53 2 + 1) = 114) (by omega)]
           rw [q, if_neg (by decide)] at o1
           exact vk_w1 hd hK hT (by split <;> omega) _ o1)
        | (have q : mt4 (m 54) (m 53 1) (m 53 2) 102 114 111 109 = 2 := by unfold mt4; rw [if_pos (c := nxt (m 54) (m 53 1) (m 53 2) = 102) (by omega), if_pos (c := nxt (m 54) (m 53 1) (m 53 2 + 1) = 114) (by omega), if_neg (c := nxt (m 54) (m 53 1) (m 53 2 + 2) = 111) (by omega)]
           rw [q, if_neg (by decide)] at o1
           exact vk_w1 hd hK hT (by split <;> omega) _ o1)
        | (have q : mt4 (m 54) (m 53 1) (m 53 2) 102 114 111 109 = 3 := by unfold mt4; rw [if_pos (c := nxt (m 54) (m 53 1) (m 53 2) = 102) (by omega), if_pos (c := nxt (m 54) (m 53 1) (m 53 2 + 1) = 114) (by omega), if_pos (c := nxt (m 54) (m 53 1) (m 53 2 + 2) = 111) (by omega), if_neg (c := nxt (m 54) (m 53 1) (m 53 2 + 3) = 109) (by omega)]
           rw [q, if_neg (by decide)] at o1
           exact vk_w1 hd hK hT (by split <;> omega) _ o1)
      · refine v_aload_n (n := 30) xB_49 dX5_word_29 rfl rfl ?_
        refine v_gf_s (n := 33) (kz := 0) xB_49 dX5_word_30 xO_49 fl_5_9 fg_5_0 (sh_53 _ _ _) rfl st_53_0 rfl ?_
        refine v_aload_n (n := 34) xB_49 dX5_word_33 rfl rfl ?_
        refine v_gf_i (n := 37) (kz := 2) xB_49 dX5_word_34 xO_49 fl_5_28 fg_5_2 rfl (sh_53 _ _ _) rfl rfl ?_
        refine v_iload_n (n := 38) xB_49 dX5_word_37 rfl rfl ?_
        refine v_iadd (n := 39) xB_49 dX5_word_38 (by first | omega | (simp only [sA_same, sA_s, ud_s, Int.reduceEq, if_true, if_false, ite_true, ite_false, ↓reduceIte, and_true, true_and, eq_self, Int.add_zero, Int.reduceAdd]; omega) | (simp (disch := omega) only [sA_same, sA_ne, ud_eq, ud_ne, Int.add_zero, Int.reduceAdd]; omega)) rfl ?_
        refine v_iaload (n := 40) (lz := 100) xB_49 dX5_word_39 (sh_54 _ _ _) rfl (by first | omega | (simp only [sA_same, sA_s, ud_s, Int.reduceEq, if_true, if_false, ite_true, ite_false, ↓reduceIte, and_true, true_and, eq_self, Int.add_zero, Int.reduceAdd]; omega) | (simp (disch := omega) only [sA_same, sA_ne, ud_eq, ud_ne, Int.add_zero, Int.reduceAdd]; omega)) rfl ?_
        refine v_ldc_r (n := 42) xB_49 dX5_word_40 xO_49 lc_5_109 rfl ?_
        refine v_iload_n (n := 43) xB_49 dX5_word_42 rfl rfl ?_
        refine v_iconst (n := 44) xB_49 dX5_word_43 ⟨by decide, by decide⟩ rfl ?_
        refine v_imul (n := 45) xB_49 dX5_word_44 (by first | omega | (simp only [sA_same, sA_s, ud_s, Int.reduceEq, if_true, if_false, ite_true, ite_false, ↓reduceIte, and_true, true_and, eq_self, Int.add_zero, Int.reduceAdd]; omega) | (simp (disch := omega) only [sA_same, sA_ne, ud_eq, ud_ne, Int.add_zero, Int.reduceAdd]; omega)) rfl ?_
        refine v_iload_n (n := 46) xB_49 dX5_word_45 rfl rfl ?_
        refine v_iadd (n := 47) xB_49 dX5_word_46 (by first | omega | (simp only [sA_same, sA_s, ud_s, Int.reduceEq, if_true, if_false, ite_true, ite_false, ↓reduceIte, and_true, true_and, eq_self, Int.add_zero, Int.reduceAdd]; omega) | (simp (disch := omega) only [sA_same, sA_ne, ud_eq, ud_ne, Int.add_zero, Int.reduceAdd]; omega)) rfl ?_
        refine v_call_t (cls := 0) (n := 50) xB_49 dX5_word_47 xO_49 iv_5_111 rfl (by first | omega | (simp only [sA_same, sA_s, ud_s, Int.reduceEq, if_true, if_false, ite_true, ite_false, ↓reduceIte, and_true, true_and, eq_self, Int.add_zero, Int.reduceAdd]; omega) | (simp (disch := omega) only [sA_same, sA_ne, ud_eq, ud_ne, Int.add_zero, Int.reduceAdd]; omega)) rfl rfl rfl ?_
        refine j_charAt (by omega) (Or.inl rfl) (sh_m20 _ _ _) (by simp only [Int.reduceNeg, Int.reduceSub, Int.reduceMul, Int.reduceAdd, Int.add_zero]; omega) (by simp only [Int.reduceNeg, Int.reduceSub, Int.reduceMul, Int.reduceAdd, Int.add_zero]; omega) ?_
        (try simp only [Int.reduceNeg, Int.reduceSub, Int.reduceMul, Int.reduceAdd, Int.add_zero])
        refine v_ic_ne (t := 59) (n := 53) xB_49 dX5_word_50 (by decide) rfl rfl (fun g4 => ?_) (fun g4 => ?_)
        · refine v_iload_n (n := 60) xB_49 dX5_word_59 rfl rfl ?_
          refine v_iconst (n := 61) xB_49 dX5_word_60 ⟨by decide, by decide⟩ rfl ?_
          refine v_ic_ne_y (t := 76) xB_49 dX5_word_61 (by decide) rfl (by decide) ?_
          refine v_iload_n (n := 77) xB_49 dX5_word_76 rfl rfl ?_
          refine v_iload_n (n := 78) xB_49 dX5_word_77 rfl rfl ?_
          refine v_max (n := 81) xB_49 dX5_word_78 xO_49 sp_5_81 rfl rfl ?_
          refine v_istore_n1 (n := 82) xB_49 dX5_word_81 rfl rfl ?_
          refine v_iinc2 (n := 85) xB_49 dX5_word_82 rfl (by first | omega | (simp only [sA_same, sA_s, ud_s, Int.reduceEq, if_true, if_false, ite_true, ite_false, ↓reduceIte, and_true, true_and, eq_self, Int.add_zero, Int.reduceAdd]; omega) | (simp (disch := omega) only [sA_same, sA_ne, ud_eq, ud_ne, Int.add_zero, Int.reduceAdd]; omega)) rfl ?_
          refine v_goto (t := 4) xB_49 dX5_word_85 (by decide) rfl ?_
          first
          | (have q : mt4 (m 54) (m 53 1) (m 53 2) 102 114 111 109 = 0 := by unfold mt4; rw [if_neg (c := nxt (m 54) (m 53 1) (m 53 2) = 102) (by omega)]
             rw [q, if_neg (by decide)] at o1
             exact vk_w1 hd hK hT (by split <;> omega) _ o1)
          | (have q : mt4 (m 54) (m 53 1) (m 53 2) 102 114 111 109 = 1 := by unfold mt4; rw [if_pos (c := nxt (m 54) (m 53 1) (m 53 2) = 102) (by omega), if_neg (c := nxt (m 54) (m 53 1) (m 53 2 + 1) = 114) (by omega)]
             rw [q, if_neg (by decide)] at o1
             exact vk_w1 hd hK hT (by split <;> omega) _ o1)
          | (have q : mt4 (m 54) (m 53 1) (m 53 2) 102 114 111 109 = 2 := by unfold mt4; rw [if_pos (c := nxt (m 54) (m 53 1) (m 53 2) = 102) (by omega), if_pos (c := nxt (m 54) (m 53 1) (m 53 2 + 1) = 114) (by omega), if_neg (c := nxt (m 54) (m 53 1) (m 53 2 + 2) = 111) (by omega)]
             rw [q, if_neg (by decide)] at o1
             exact vk_w1 hd hK hT (by split <;> omega) _ o1)
          | (have q : mt4 (m 54) (m 53 1) (m 53 2) 102 114 111 109 = 3 := by unfold mt4; rw [if_pos (c := nxt (m 54) (m 53 1) (m 53 2) = 102) (by omega), if_pos (c := nxt (m 54) (m 53 1) (m 53 2 + 1) = 114) (by omega), if_pos (c := nxt (m 54) (m 53 1) (m 53 2 + 2) = 111) (by omega), if_neg (c := nxt (m 54) (m 53 1) (m 53 2 + 3) = 109) (by omega)]
             rw [q, if_neg (by decide)] at o1
             exact vk_w1 hd hK hT (by split <;> omega) _ o1)
        · refine v_iinc3 (n := 56) xB_49 dX5_word_53 rfl (by first | omega | (simp only [sA_same, sA_s, ud_s, Int.reduceEq, if_true, if_false, ite_true, ite_false, ↓reduceIte, and_true, true_and, eq_self, Int.add_zero, Int.reduceAdd]; omega) | (simp (disch := omega) only [sA_same, sA_ne, ud_eq, ud_ne, Int.add_zero, Int.reduceAdd]; omega)) rfl ?_
          refine v_goto (t := 11) xB_49 dX5_word_56 (by decide) rfl ?_
          refine v_iload_n (n := 12) xB_49 dX5_word_11 rfl rfl ?_
          refine v_iconst (n := 13) xB_49 dX5_word_12 ⟨by decide, by decide⟩ rfl ?_
          refine v_ic_ge_n (n := 16) xB_49 dX5_word_13 (by decide) rfl (by decide) ?_
          refine v_aload_n (n := 17) xB_49 dX5_word_16 rfl rfl ?_
          refine v_gf_i (n := 20) (kz := 2) xB_49 dX5_word_17 xO_49 fl_5_28 fg_5_2 rfl (sh_53 _ _ _) rfl rfl ?_
          refine v_iload_n (n := 21) xB_49 dX5_word_20 rfl rfl ?_
          refine v_iadd (n := 22) xB_49 dX5_word_21 (by first | omega | (simp only [sA_same, sA_s, ud_s, Int.reduceEq, if_true, if_false, ite_true, ite_false, ↓reduceIte, and_true, true_and, eq_self, Int.add_zero, Int.reduceAdd]; omega) | (simp (disch := omega) only [sA_same, sA_ne, ud_eq, ud_ne, Int.add_zero, Int.reduceAdd]; omega)) rfl ?_
          refine v_aload_n (n := 23) xB_49 dX5_word_22 rfl rfl ?_
          refine v_gf_i (n := 26) (kz := 1) xB_49 dX5_word_23 xO_49 fl_5_59 fg_5_1 rfl (sh_53 _ _ _) rfl rfl ?_
          refine v_ic_ge (t := 59) (n := 29) xB_49 dX5_word_26 (by decide) rfl rfl (fun g5 => ?_) (fun g5 => ?_)
          · refine v_iload_n (n := 60) xB_49 dX5_word_59 rfl rfl ?_
            refine v_iconst (n := 61) xB_49 dX5_word_60 ⟨by decide, by decide⟩ rfl ?_
            refine v_ic_ne_y (t := 76) xB_49 dX5_word_61 (by decide) rfl (by decide) ?_
            refine v_iload_n (n := 77) xB_49 dX5_word_76 rfl rfl ?_
            refine v_iload_n (n := 78) xB_49 dX5_word_77 rfl rfl ?_
            refine v_max (n := 81) xB_49 dX5_word_78 xO_49 sp_5_81 rfl rfl ?_
            refine v_istore_n1 (n := 82) xB_49 dX5_word_81 rfl rfl ?_
            refine v_iinc2 (n := 85) xB_49 dX5_word_82 rfl (by first | omega | (simp only [sA_same, sA_s, ud_s, Int.reduceEq, if_true, if_false, ite_true, ite_false, ↓reduceIte, and_true, true_and, eq_self, Int.add_zero, Int.reduceAdd]; omega) | (simp (disch := omega) only [sA_same, sA_ne, ud_eq, ud_ne, Int.add_zero, Int.reduceAdd]; omega)) rfl ?_
            refine v_goto (t := 4) xB_49 dX5_word_85 (by decide) rfl ?_
            first
            | (have q : mt4 (m 54) (m 53 1) (m 53 2) 102 114 111 109 = 0 := by unfold mt4; rw [if_neg (c := nxt (m 54) (m 53 1) (m 53 2) = 102) (by omega)]
               rw [q, if_neg (by decide)] at o1
               exact vk_w1 hd hK hT (by split <;> omega) _ o1)
            | (have q : mt4 (m 54) (m 53 1) (m 53 2) 102 114 111 109 = 1 := by unfold mt4; rw [if_pos (c := nxt (m 54) (m 53 1) (m 53 2) = 102) (by omega), if_neg (c := nxt (m 54) (m 53 1) (m 53 2 + 1) = 114) (by omega)]
               rw [q, if_neg (by decide)] at o1
               exact vk_w1 hd hK hT (by split <;> omega) _ o1)
            | (have q : mt4 (m 54) (m 53 1) (m 53 2) 102 114 111 109 = 2 := by unfold mt4; rw [if_pos (c := nxt (m 54) (m 53 1) (m 53 2) = 102) (by omega), if_pos (c := nxt (m 54) (m 53 1) (m 53 2 + 1) = 114) (by omega), if_neg (c := nxt (m 54) (m 53 1) (m 53 2 + 2) = 111) (by omega)]
               rw [q, if_neg (by decide)] at o1
               exact vk_w1 hd hK hT (by split <;> omega) _ o1)
            | (have q : mt4 (m 54) (m 53 1) (m 53 2) 102 114 111 109 = 3 := by unfold mt4; rw [if_pos (c := nxt (m 54) (m 53 1) (m 53 2) = 102) (by omega), if_pos (c := nxt (m 54) (m 53 1) (m 53 2 + 1) = 114) (by omega), if_pos (c := nxt (m 54) (m 53 1) (m 53 2 + 2) = 111) (by omega), if_neg (c := nxt (m 54) (m 53 1) (m 53 2 + 3) = 109) (by omega)]
               rw [q, if_neg (by decide)] at o1
               exact vk_w1 hd hK hT (by split <;> omega) _ o1)
          · refine v_aload_n (n := 30) xB_49 dX5_word_29 rfl rfl ?_
            refine v_gf_s (n := 33) (kz := 0) xB_49 dX5_word_30 xO_49 fl_5_9 fg_5_0 (sh_53 _ _ _) rfl st_53_0 rfl ?_
            refine v_aload_n (n := 34) xB_49 dX5_word_33 rfl rfl ?_
            refine v_gf_i (n := 37) (kz := 2) xB_49 dX5_word_34 xO_49 fl_5_28 fg_5_2 rfl (sh_53 _ _ _) rfl rfl ?_
            refine v_iload_n (n := 38) xB_49 dX5_word_37 rfl rfl ?_
            refine v_iadd (n := 39) xB_49 dX5_word_38 (by first | omega | (simp only [sA_same, sA_s, ud_s, Int.reduceEq, if_true, if_false, ite_true, ite_false, ↓reduceIte, and_true, true_and, eq_self, Int.add_zero, Int.reduceAdd]; omega) | (simp (disch := omega) only [sA_same, sA_ne, ud_eq, ud_ne, Int.add_zero, Int.reduceAdd]; omega)) rfl ?_
            refine v_iaload (n := 40) (lz := 100) xB_49 dX5_word_39 (sh_54 _ _ _) rfl (by first | omega | (simp only [sA_same, sA_s, ud_s, Int.reduceEq, if_true, if_false, ite_true, ite_false, ↓reduceIte, and_true, true_and, eq_self, Int.add_zero, Int.reduceAdd]; omega) | (simp (disch := omega) only [sA_same, sA_ne, ud_eq, ud_ne, Int.add_zero, Int.reduceAdd]; omega)) rfl ?_
            refine v_ldc_r (n := 42) xB_49 dX5_word_40 xO_49 lc_5_109 rfl ?_
            refine v_iload_n (n := 43) xB_49 dX5_word_42 rfl rfl ?_
            refine v_iconst (n := 44) xB_49 dX5_word_43 ⟨by decide, by decide⟩ rfl ?_
            refine v_imul (n := 45) xB_49 dX5_word_44 (by first | omega | (simp only [sA_same, sA_s, ud_s, Int.reduceEq, if_true, if_false, ite_true, ite_false, ↓reduceIte, and_true, true_and, eq_self, Int.add_zero, Int.reduceAdd]; omega) | (simp (disch := omega) only [sA_same, sA_ne, ud_eq, ud_ne, Int.add_zero, Int.reduceAdd]; omega)) rfl ?_
            refine v_iload_n (n := 46) xB_49 dX5_word_45 rfl rfl ?_
            refine v_iadd (n := 47) xB_49 dX5_word_46 (by first | omega | (simp only [sA_same, sA_s, ud_s, Int.reduceEq, if_true, if_false, ite_true, ite_false, ↓reduceIte, and_true, true_and, eq_self, Int.add_zero, Int.reduceAdd]; omega) | (simp (disch := omega) only [sA_same, sA_ne, ud_eq, ud_ne, Int.add_zero, Int.reduceAdd]; omega)) rfl ?_
            refine v_call_t (cls := 0) (n := 50) xB_49 dX5_word_47 xO_49 iv_5_111 rfl (by first | omega | (simp only [sA_same, sA_s, ud_s, Int.reduceEq, if_true, if_false, ite_true, ite_false, ↓reduceIte, and_true, true_and, eq_self, Int.add_zero, Int.reduceAdd]; omega) | (simp (disch := omega) only [sA_same, sA_ne, ud_eq, ud_ne, Int.add_zero, Int.reduceAdd]; omega)) rfl rfl rfl ?_
            refine j_charAt (by omega) (Or.inl rfl) (sh_m20 _ _ _) (by simp only [Int.reduceNeg, Int.reduceSub, Int.reduceMul, Int.reduceAdd, Int.add_zero]; omega) (by simp only [Int.reduceNeg, Int.reduceSub, Int.reduceMul, Int.reduceAdd, Int.add_zero]; omega) ?_
            (try simp only [Int.reduceNeg, Int.reduceSub, Int.reduceMul, Int.reduceAdd, Int.add_zero])
            refine v_ic_ne (t := 59) (n := 53) xB_49 dX5_word_50 (by decide) rfl rfl (fun g6 => ?_) (fun g6 => ?_)
            · refine v_iload_n (n := 60) xB_49 dX5_word_59 rfl rfl ?_
              refine v_iconst (n := 61) xB_49 dX5_word_60 ⟨by decide, by decide⟩ rfl ?_
              refine v_ic_ne_y (t := 76) xB_49 dX5_word_61 (by decide) rfl (by decide) ?_
              refine v_iload_n (n := 77) xB_49 dX5_word_76 rfl rfl ?_
              refine v_iload_n (n := 78) xB_49 dX5_word_77 rfl rfl ?_
              refine v_max (n := 81) xB_49 dX5_word_78 xO_49 sp_5_81 rfl rfl ?_
              refine v_istore_n1 (n := 82) xB_49 dX5_word_81 rfl rfl ?_
              refine v_iinc2 (n := 85) xB_49 dX5_word_82 rfl (by first | omega | (simp only [sA_same, sA_s, ud_s, Int.reduceEq, if_true, if_false, ite_true, ite_false, ↓reduceIte, and_true, true_and, eq_self, Int.add_zero, Int.reduceAdd]; omega) | (simp (disch := omega) only [sA_same, sA_ne, ud_eq, ud_ne, Int.add_zero, Int.reduceAdd]; omega)) rfl ?_
              refine v_goto (t := 4) xB_49 dX5_word_85 (by decide) rfl ?_
              first
              | (have q : mt4 (m 54) (m 53 1) (m 53 2) 102 114 111 109 = 0 := by unfold mt4; rw [if_neg (c := nxt (m 54) (m 53 1) (m 53 2) = 102) (by omega)]
                 rw [q, if_neg (by decide)] at o1
                 exact vk_w1 hd hK hT (by split <;> omega) _ o1)
              | (have q : mt4 (m 54) (m 53 1) (m 53 2) 102 114 111 109 = 1 := by unfold mt4; rw [if_pos (c := nxt (m 54) (m 53 1) (m 53 2) = 102) (by omega), if_neg (c := nxt (m 54) (m 53 1) (m 53 2 + 1) = 114) (by omega)]
                 rw [q, if_neg (by decide)] at o1
                 exact vk_w1 hd hK hT (by split <;> omega) _ o1)
              | (have q : mt4 (m 54) (m 53 1) (m 53 2) 102 114 111 109 = 2 := by unfold mt4; rw [if_pos (c := nxt (m 54) (m 53 1) (m 53 2) = 102) (by omega), if_pos (c := nxt (m 54) (m 53 1) (m 53 2 + 1) = 114) (by omega), if_neg (c := nxt (m 54) (m 53 1) (m 53 2 + 2) = 111) (by omega)]
                 rw [q, if_neg (by decide)] at o1
                 exact vk_w1 hd hK hT (by split <;> omega) _ o1)
              | (have q : mt4 (m 54) (m 53 1) (m 53 2) 102 114 111 109 = 3 := by unfold mt4; rw [if_pos (c := nxt (m 54) (m 53 1) (m 53 2) = 102) (by omega), if_pos (c := nxt (m 54) (m 53 1) (m 53 2 + 1) = 114) (by omega), if_pos (c := nxt (m 54) (m 53 1) (m 53 2 + 2) = 111) (by omega), if_neg (c := nxt (m 54) (m 53 1) (m 53 2 + 3) = 109) (by omega)]
                 rw [q, if_neg (by decide)] at o1
                 exact vk_w1 hd hK hT (by split <;> omega) _ o1)
            · refine v_iinc3 (n := 56) xB_49 dX5_word_53 rfl (by first | omega | (simp only [sA_same, sA_s, ud_s, Int.reduceEq, if_true, if_false, ite_true, ite_false, ↓reduceIte, and_true, true_and, eq_self, Int.add_zero, Int.reduceAdd]; omega) | (simp (disch := omega) only [sA_same, sA_ne, ud_eq, ud_ne, Int.add_zero, Int.reduceAdd]; omega)) rfl ?_
              refine v_goto (t := 11) xB_49 dX5_word_56 (by decide) rfl ?_
              refine v_iload_n (n := 12) xB_49 dX5_word_11 rfl rfl ?_
              refine v_iconst (n := 13) xB_49 dX5_word_12 ⟨by decide, by decide⟩ rfl ?_
              refine v_ic_ge_n (n := 16) xB_49 dX5_word_13 (by decide) rfl (by decide) ?_
              refine v_aload_n (n := 17) xB_49 dX5_word_16 rfl rfl ?_
              refine v_gf_i (n := 20) (kz := 2) xB_49 dX5_word_17 xO_49 fl_5_28 fg_5_2 rfl (sh_53 _ _ _) rfl rfl ?_
              refine v_iload_n (n := 21) xB_49 dX5_word_20 rfl rfl ?_
              refine v_iadd (n := 22) xB_49 dX5_word_21 (by first | omega | (simp only [sA_same, sA_s, ud_s, Int.reduceEq, if_true, if_false, ite_true, ite_false, ↓reduceIte, and_true, true_and, eq_self, Int.add_zero, Int.reduceAdd]; omega) | (simp (disch := omega) only [sA_same, sA_ne, ud_eq, ud_ne, Int.add_zero, Int.reduceAdd]; omega)) rfl ?_
              refine v_aload_n (n := 23) xB_49 dX5_word_22 rfl rfl ?_
              refine v_gf_i (n := 26) (kz := 1) xB_49 dX5_word_23 xO_49 fl_5_59 fg_5_1 rfl (sh_53 _ _ _) rfl rfl ?_
              refine v_ic_ge (t := 59) (n := 29) xB_49 dX5_word_26 (by decide) rfl rfl (fun g7 => ?_) (fun g7 => ?_)
              · refine v_iload_n (n := 60) xB_49 dX5_word_59 rfl rfl ?_
                refine v_iconst (n := 61) xB_49 dX5_word_60 ⟨by decide, by decide⟩ rfl ?_
                refine v_ic_ne_y (t := 76) xB_49 dX5_word_61 (by decide) rfl (by decide) ?_
                refine v_iload_n (n := 77) xB_49 dX5_word_76 rfl rfl ?_
                refine v_iload_n (n := 78) xB_49 dX5_word_77 rfl rfl ?_
                refine v_max (n := 81) xB_49 dX5_word_78 xO_49 sp_5_81 rfl rfl ?_
                refine v_istore_n1 (n := 82) xB_49 dX5_word_81 rfl rfl ?_
                refine v_iinc2 (n := 85) xB_49 dX5_word_82 rfl (by first | omega | (simp only [sA_same, sA_s, ud_s, Int.reduceEq, if_true, if_false, ite_true, ite_false, ↓reduceIte, and_true, true_and, eq_self, Int.add_zero, Int.reduceAdd]; omega) | (simp (disch := omega) only [sA_same, sA_ne, ud_eq, ud_ne, Int.add_zero, Int.reduceAdd]; omega)) rfl ?_
                refine v_goto (t := 4) xB_49 dX5_word_85 (by decide) rfl ?_
                first
                | (have q : mt4 (m 54) (m 53 1) (m 53 2) 102 114 111 109 = 0 := by unfold mt4; rw [if_neg (c := nxt (m 54) (m 53 1) (m 53 2) = 102) (by omega)]
                   rw [q, if_neg (by decide)] at o1
                   exact vk_w1 hd hK hT (by split <;> omega) _ o1)
                | (have q : mt4 (m 54) (m 53 1) (m 53 2) 102 114 111 109 = 1 := by unfold mt4; rw [if_pos (c := nxt (m 54) (m 53 1) (m 53 2) = 102) (by omega), if_neg (c := nxt (m 54) (m 53 1) (m 53 2 + 1) = 114) (by omega)]
                   rw [q, if_neg (by decide)] at o1
                   exact vk_w1 hd hK hT (by split <;> omega) _ o1)
                | (have q : mt4 (m 54) (m 53 1) (m 53 2) 102 114 111 109 = 2 := by unfold mt4; rw [if_pos (c := nxt (m 54) (m 53 1) (m 53 2) = 102) (by omega), if_pos (c := nxt (m 54) (m 53 1) (m 53 2 + 1) = 114) (by omega), if_neg (c := nxt (m 54) (m 53 1) (m 53 2 + 2) = 111) (by omega)]
                   rw [q, if_neg (by decide)] at o1
                   exact vk_w1 hd hK hT (by split <;> omega) _ o1)
                | (have q : mt4 (m 54) (m 53 1) (m 53 2) 102 114 111 109 = 3 := by unfold mt4; rw [if_pos (c := nxt (m 54) (m 53 1) (m 53 2) = 102) (by omega), if_pos (c := nxt (m 54) (m 53 1) (m 53 2 + 1) = 114) (by omega), if_pos (c := nxt (m 54) (m 53 1) (m 53 2 + 2) = 111) (by omega), if_neg (c := nxt (m 54) (m 53 1) (m 53 2 + 3) = 109) (by omega)]
                   rw [q, if_neg (by decide)] at o1
                   exact vk_w1 hd hK hT (by split <;> omega) _ o1)
              · refine v_aload_n (n := 30) xB_49 dX5_word_29 rfl rfl ?_
                refine v_gf_s (n := 33) (kz := 0) xB_49 dX5_word_30 xO_49 fl_5_9 fg_5_0 (sh_53 _ _ _) rfl st_53_0 rfl ?_
                refine v_aload_n (n := 34) xB_49 dX5_word_33 rfl rfl ?_
                refine v_gf_i (n := 37) (kz := 2) xB_49 dX5_word_34 xO_49 fl_5_28 fg_5_2 rfl (sh_53 _ _ _) rfl rfl ?_
                refine v_iload_n (n := 38) xB_49 dX5_word_37 rfl rfl ?_
                refine v_iadd (n := 39) xB_49 dX5_word_38 (by first | omega | (simp only [sA_same, sA_s, ud_s, Int.reduceEq, if_true, if_false, ite_true, ite_false, ↓reduceIte, and_true, true_and, eq_self, Int.add_zero, Int.reduceAdd]; omega) | (simp (disch := omega) only [sA_same, sA_ne, ud_eq, ud_ne, Int.add_zero, Int.reduceAdd]; omega)) rfl ?_
                refine v_iaload (n := 40) (lz := 100) xB_49 dX5_word_39 (sh_54 _ _ _) rfl (by first | omega | (simp only [sA_same, sA_s, ud_s, Int.reduceEq, if_true, if_false, ite_true, ite_false, ↓reduceIte, and_true, true_and, eq_self, Int.add_zero, Int.reduceAdd]; omega) | (simp (disch := omega) only [sA_same, sA_ne, ud_eq, ud_ne, Int.add_zero, Int.reduceAdd]; omega)) rfl ?_
                refine v_ldc_r (n := 42) xB_49 dX5_word_40 xO_49 lc_5_109 rfl ?_
                refine v_iload_n (n := 43) xB_49 dX5_word_42 rfl rfl ?_
                refine v_iconst (n := 44) xB_49 dX5_word_43 ⟨by decide, by decide⟩ rfl ?_
                refine v_imul (n := 45) xB_49 dX5_word_44 (by first | omega | (simp only [sA_same, sA_s, ud_s, Int.reduceEq, if_true, if_false, ite_true, ite_false, ↓reduceIte, and_true, true_and, eq_self, Int.add_zero, Int.reduceAdd]; omega) | (simp (disch := omega) only [sA_same, sA_ne, ud_eq, ud_ne, Int.add_zero, Int.reduceAdd]; omega)) rfl ?_
                refine v_iload_n (n := 46) xB_49 dX5_word_45 rfl rfl ?_
                refine v_iadd (n := 47) xB_49 dX5_word_46 (by first | omega | (simp only [sA_same, sA_s, ud_s, Int.reduceEq, if_true, if_false, ite_true, ite_false, ↓reduceIte, and_true, true_and, eq_self, Int.add_zero, Int.reduceAdd]; omega) | (simp (disch := omega) only [sA_same, sA_ne, ud_eq, ud_ne, Int.add_zero, Int.reduceAdd]; omega)) rfl ?_
                refine v_call_t (cls := 0) (n := 50) xB_49 dX5_word_47 xO_49 iv_5_111 rfl (by first | omega | (simp only [sA_same, sA_s, ud_s, Int.reduceEq, if_true, if_false, ite_true, ite_false, ↓reduceIte, and_true, true_and, eq_self, Int.add_zero, Int.reduceAdd]; omega) | (simp (disch := omega) only [sA_same, sA_ne, ud_eq, ud_ne, Int.add_zero, Int.reduceAdd]; omega)) rfl rfl rfl ?_
                refine j_charAt (by omega) (Or.inl rfl) (sh_m20 _ _ _) (by simp only [Int.reduceNeg, Int.reduceSub, Int.reduceMul, Int.reduceAdd, Int.add_zero]; omega) (by simp only [Int.reduceNeg, Int.reduceSub, Int.reduceMul, Int.reduceAdd, Int.add_zero]; omega) ?_
                (try simp only [Int.reduceNeg, Int.reduceSub, Int.reduceMul, Int.reduceAdd, Int.add_zero])
                refine v_ic_ne (t := 59) (n := 53) xB_49 dX5_word_50 (by decide) rfl rfl (fun g8 => ?_) (fun g8 => ?_)
                · refine v_iload_n (n := 60) xB_49 dX5_word_59 rfl rfl ?_
                  refine v_iconst (n := 61) xB_49 dX5_word_60 ⟨by decide, by decide⟩ rfl ?_
                  refine v_ic_ne_y (t := 76) xB_49 dX5_word_61 (by decide) rfl (by decide) ?_
                  refine v_iload_n (n := 77) xB_49 dX5_word_76 rfl rfl ?_
                  refine v_iload_n (n := 78) xB_49 dX5_word_77 rfl rfl ?_
                  refine v_max (n := 81) xB_49 dX5_word_78 xO_49 sp_5_81 rfl rfl ?_
                  refine v_istore_n1 (n := 82) xB_49 dX5_word_81 rfl rfl ?_
                  refine v_iinc2 (n := 85) xB_49 dX5_word_82 rfl (by first | omega | (simp only [sA_same, sA_s, ud_s, Int.reduceEq, if_true, if_false, ite_true, ite_false, ↓reduceIte, and_true, true_and, eq_self, Int.add_zero, Int.reduceAdd]; omega) | (simp (disch := omega) only [sA_same, sA_ne, ud_eq, ud_ne, Int.add_zero, Int.reduceAdd]; omega)) rfl ?_
                  refine v_goto (t := 4) xB_49 dX5_word_85 (by decide) rfl ?_
                  first
                  | (have q : mt4 (m 54) (m 53 1) (m 53 2) 102 114 111 109 = 0 := by unfold mt4; rw [if_neg (c := nxt (m 54) (m 53 1) (m 53 2) = 102) (by omega)]
                     rw [q, if_neg (by decide)] at o1
                     exact vk_w1 hd hK hT (by split <;> omega) _ o1)
                  | (have q : mt4 (m 54) (m 53 1) (m 53 2) 102 114 111 109 = 1 := by unfold mt4; rw [if_pos (c := nxt (m 54) (m 53 1) (m 53 2) = 102) (by omega), if_neg (c := nxt (m 54) (m 53 1) (m 53 2 + 1) = 114) (by omega)]
                     rw [q, if_neg (by decide)] at o1
                     exact vk_w1 hd hK hT (by split <;> omega) _ o1)
                  | (have q : mt4 (m 54) (m 53 1) (m 53 2) 102 114 111 109 = 2 := by unfold mt4; rw [if_pos (c := nxt (m 54) (m 53 1) (m 53 2) = 102) (by omega), if_pos (c := nxt (m 54) (m 53 1) (m 53 2 + 1) = 114) (by omega), if_neg (c := nxt (m 54) (m 53 1) (m 53 2 + 2) = 111) (by omega)]
                     rw [q, if_neg (by decide)] at o1
                     exact vk_w1 hd hK hT (by split <;> omega) _ o1)
                  | (have q : mt4 (m 54) (m 53 1) (m 53 2) 102 114 111 109 = 3 := by unfold mt4; rw [if_pos (c := nxt (m 54) (m 53 1) (m 53 2) = 102) (by omega), if_pos (c := nxt (m 54) (m 53 1) (m 53 2 + 1) = 114) (by omega), if_pos (c := nxt (m 54) (m 53 1) (m 53 2 + 2) = 111) (by omega), if_neg (c := nxt (m 54) (m 53 1) (m 53 2 + 3) = 109) (by omega)]
                     rw [q, if_neg (by decide)] at o1
                     exact vk_w1 hd hK hT (by split <;> omega) _ o1)
                · refine v_iinc3 (n := 56) xB_49 dX5_word_53 rfl (by first | omega | (simp only [sA_same, sA_s, ud_s, Int.reduceEq, if_true, if_false, ite_true, ite_false, ↓reduceIte, and_true, true_and, eq_self, Int.add_zero, Int.reduceAdd]; omega) | (simp (disch := omega) only [sA_same, sA_ne, ud_eq, ud_ne, Int.add_zero, Int.reduceAdd]; omega)) rfl ?_
                  refine v_goto (t := 11) xB_49 dX5_word_56 (by decide) rfl ?_
                  refine v_iload_n (n := 12) xB_49 dX5_word_11 rfl rfl ?_
                  refine v_iconst (n := 13) xB_49 dX5_word_12 ⟨by decide, by decide⟩ rfl ?_
                  refine v_ic_ge_y (t := 59) xB_49 dX5_word_13 (by decide) rfl (by decide) ?_
                  refine v_iload_n (n := 60) xB_49 dX5_word_59 rfl rfl ?_
                  refine v_iconst (n := 61) xB_49 dX5_word_60 ⟨by decide, by decide⟩ rfl ?_
                  refine v_ic_ne_n (n := 64) xB_49 dX5_word_61 (by decide) rfl (by decide) ?_
                  refine v_aload_n (n := 65) xB_49 dX5_word_64 rfl rfl ?_
                  refine v_dup (n := 66) xB_49 dX5_word_65 rfl rfl ?_
                  refine v_gf_i (n := 69) (kz := 2) xB_49 dX5_word_66 xO_49 fl_5_28 fg_5_2 rfl (sh_53 _ _ _) rfl rfl ?_
                  refine v_iconst (n := 70) xB_49 dX5_word_69 ⟨by decide, by decide⟩ rfl ?_
                  refine v_iadd (n := 71) xB_49 dX5_word_70 (by first | omega | (simp only [sA_same, sA_s, ud_s, Int.reduceEq, if_true, if_false, ite_true, ite_false, ↓reduceIte, and_true, true_and, eq_self, Int.add_zero, Int.reduceAdd]; omega) | (simp (disch := omega) only [sA_same, sA_ne, ud_eq, ud_ne, Int.add_zero, Int.reduceAdd]; omega)) rfl ?_
                  refine v_pf_i (n := 74) (kz := 2) xB_49 dX5_word_71 xO_49 fl_5_28 fg_5_2 (Or.inl fn_5_2) (sh_53 _ _ _) (by decide) rfl rfl ?_
                  refine v_iload_n (n := 75) xB_49 dX5_word_74 rfl rfl ?_
                  refine v_ireturn0 xB_49 dX5_word_75 xK_49 ?_
                  have q : mt4 (m 54) (m 53 1) (m 53 2) 102 114 111 109 = 4 := by unfold mt4; rw [if_pos (c := nxt (m 54) (m 53 1) (m 53 2) = 102) (by omega), if_pos (c := nxt (m 54) (m 53 1) (m 53 2 + 1) = 114) (by omega), if_pos (c := nxt (m 54) (m 53 1) (m 53 2 + 2) = 111) (by omega), if_pos (c := nxt (m 54) (m 53 1) (m 53 2 + 3) = 109) (by omega)]
                  rw [q, if_pos rfl] at o1
                  exact o1
set_option maxHeartbeats 1000000 in
theorem k_word {d : Nat}  {m : PM} {dy : List (Nat × Nat)} {L : Nat} {Q : Option PV → PS → Prop} (hd : 6 ≤ d) (hK : KT m) (hT : (0 ≤ m 53 1 ∧ m 53 1 ≤ 100) ∧ (0 ≤ m 53 2 ∧ m 53 2 ≤ m 53 1)) (o1 : Q (some (.inl (wdF (m 54) (m 53 1) (m 53 2)).1)) (setA m 53 (ud (m 53) 2 (wdF (m 54) (m 53 1) (m 53 2)).2), (none, (dy, L)))) : C d 49 [.inr (.inr 53)] (m, (none, (dy, L))) Q := by
  refine C_go (k := 5) hd xL_49 (fun d hd => ?_)
  show V d 49 (0, ([some (.inr (.inr 53)), none, none, none], ([], (m, (none, (dy, L)))))) Q
  rw [← wdR_4] at o1
  refine v_iconst (n := 1) xB_49 dX5_word_0 ⟨by decide, by decide⟩ rfl ?_
  refine v_istore_n1 (n := 2) xB_49 dX5_word_1 rfl rfl ?_
  refine v_iconst (n := 3) xB_49 dX5_word_2 ⟨by decide, by decide⟩ rfl ?_
  refine v_istore_n2 (n := 4) xB_49 dX5_word_3 rfl rfl ?_
  exact vk_w0 (by omega) hK hT (by omega) _ o1
