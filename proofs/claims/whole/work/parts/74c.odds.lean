/-! Odds, means: the class. -/
def psF (a b : Int) : Int := itN (fun n s => if a % (n + 2) = 0 ∧ b % (n + 2) = 0 then n + 2 else s) (b - 1).toNat (1 : Int)
def gcF (a b : Int) : Int := (Nat.gcd a.toNat b.toNat : Nat)
theorem ps_gc0 : ∀ a : Nat, a < 61 → ∀ b : Nat, b < 5 → psF (a : Int) ((b : Int) + 1) = gcF (a : Int) ((b : Int) + 1) := by decide +kernel
theorem ps_gc {a b : Int} (ha : 0 ≤ a ∧ a ≤ 60) (hb : 1 ≤ b ∧ b ≤ 5) : psF a b = gcF a b := by
  have := ps_gc0 a.toNat (by omega) (b - 1).toNat (by omega)
  rw [show ((a.toNat : Nat) : Int) = a by omega, show (((b - 1).toNat : Nat) : Int) + 1 = b by omega] at this
  exact this
theorem gc_pos {a b : Int} (hb : 1 ≤ b) : 1 ≤ gcF a b := by
  have := Nat.gcd_pos_of_pos_right a.toNat (n := b.toNat) (by omega)
  unfold gcF; omega
theorem gc_le {a b : Int} (hb : 1 ≤ b) : gcF a b ≤ b := by
  have := Nat.gcd_le_right a.toNat (n := b.toNat) (by omega)
  unfold gcF; omega
def loF (a b p : Int) : Int := if p = 0 then a / gcF a b else b / gcF a b
def NOL : Int := -9223372036854775808
def OS (m : PM) (CF : Int → CLs) (j q : Int) : Int → Int → Int := fun t e => if q ≤ RT m CF t j then e + 1 else e
def MS (m : PM) (CF : Int → CLs) (j : Int) : Int → Int → Int := fun t e => e + RT m CF t j
def OD (m : PM) (CF : Int → CLs) (j q p : Int) : Int := if (0 ≤ j ∧ j < m 81 5) ∧ (0 ≤ q ∧ q ≤ 12) ∧ (0 ≤ p ∧ p ≤ 1) ∧ m 81 0 ≠ 0 then loF (itN (OS m CF j q) (m 81 0).toNat 0) (m 81 0) p else NOL
def ME (m : PM) (CF : Int → CLs) (j p : Int) : Int := if (0 ≤ j ∧ j < m 81 5) ∧ (0 ≤ p ∧ p ≤ 1) ∧ m 81 0 ≠ 0 then loF (itN (MS m CF j) (m 81 0).toNat 0) (m 81 0) p else NOL
theorem OD_AE {m m' : PM} (h : AE m m') (CF : Int → CLs) : OD m' CF = OD m CF := by
  funext j q p; unfold OD OS; rw [RT_AE h, h.2.2.1, h.2.2.2.1]
theorem ME_AE {m m' : PM} (h : AE m m') (CF : Int → CLs) : ME m' CF = ME m CF := by
  funext j p; unfold ME MS; rw [RT_AE h, h.2.2.1, h.2.2.2.1]
set_option maxHeartbeats 1000000 in
theorem k_lowest {d : Nat} {a b p : Int} {m : PM} {dy : List (Nat × Nat)} {L : Nat} {Q : Option PV → PS → Prop} (hd : 1 ≤ d) (ha : 0 ≤ a ∧ a ≤ 60) (hb : 1 ≤ b ∧ b ≤ 5) (hp : 0 ≤ p ∧ p ≤ 1) (o1 : Q (some (.inr (.inl (loF a b p)))) (m, (none, (dy, L)))) : C d 101 [.inl a, .inl b, .inl p] (m, (none, (dy, L))) Q := by
  refine C_go (k := 0) hd xL_101 (fun d hd => ?_)
  show V d 101 (0, ([some (.inl a), some (.inl b), some (.inl p), none, none], ([], (m, (none, (dy, L)))))) Q
  refine v_iconst (n := 1) xB_101 dX10_partInLowest_0 ⟨by decide, by decide⟩ rfl ?_
  refine v_istore_n3 (n := 2) xB_101 dX10_partInLowest_1 rfl rfl ?_
  refine v_iconst (n := 3) xB_101 dX10_partInLowest_2 ⟨by decide, by decide⟩ rfl ?_
  refine v_istore4 (n := 5) xB_101 dX10_partInLowest_3 rfl rfl ?_
  refine lp_up (F := fun (k : Int) (m' : PM) => ∀ s : Int, s = itN (fun n s => if a % (n + 2) = 0 ∧ b % (n + 2) = 0 then n + 2 else s) (k - 2).toNat (1 : Int) ∧ 1 ≤ s ∧ s ≤ 6 → V d 101 (5, ([some (.inl a), some (.inl b), some (.inl p), some (.inl s), some (.inl (k))], ([], (m', (none, (dy, L)))))) Q) (E := fun (k : Int) (m' : PM) => m' = m) (a := 2) (b := b + 1) ?_ ?_ (2) (m) (by first | omega | (simp only [sA_same, sA_s, ud_s, Int.reduceEq, if_true, if_false, ite_true, ite_false, ↓reduceIte, and_true, true_and, eq_self, Int.add_zero, Int.reduceAdd]; omega) | (simp (disch := omega) only [sA_same, sA_ne, ud_eq, ud_ne, Int.add_zero, Int.reduceAdd]; omega)) (by first | omega | (simp only [sA_same, sA_s, ud_s, Int.reduceEq, if_true, if_false, ite_true, ite_false, ↓reduceIte, and_true, true_and, eq_self, Int.add_zero, Int.reduceAdd]; omega) | (simp (disch := omega) only [sA_same, sA_ne, ud_eq, ud_ne, Int.add_zero, Int.reduceAdd]; omega)) ?_ _ ⟨rfl, by omega, by omega⟩
  · intro m' hm s hs
    show V d 101 (5, ([some (.inl a), some (.inl b), some (.inl p), some (.inl s), some (.inl (b + 1))], ([], (m', (none, (dy, L)))))) Q
    subst hm
    have q := gc_pos (a := a) hb.1
    refine v_iload (n := 7) xB_101 dX10_partInLowest_5 rfl rfl ?_
    refine v_iload_n (n := 8) xB_101 dX10_partInLowest_7 rfl rfl ?_
    refine v_ic_gt_y (t := 34) xB_101 dX10_partInLowest_8 (by decide) rfl (by first | omega | (simp only [sA_same, sA_s, ud_s, Int.reduceEq, if_true, if_false, ite_true, ite_false, ↓reduceIte, and_true, true_and, eq_self, Int.add_zero, Int.reduceAdd]; omega) | (simp (disch := omega) only [sA_same, sA_ne, ud_eq, ud_ne, Int.add_zero, Int.reduceAdd]; omega)) ?_
    refine v_iload_n (n := 35) xB_101 dX10_partInLowest_34 rfl rfl ?_
    refine v_if_ne (t := 42) (n := 38) xB_101 dX10_partInLowest_35 (by decide) rfl rfl (fun g1 => ?_) (fun g1 => ?_)
    · refine v_iload_n (n := 43) xB_101 dX10_partInLowest_42 rfl rfl ?_
      refine v_iload_n (n := 44) xB_101 dX10_partInLowest_43 rfl rfl ?_
      refine v_idiv (n := 45) xB_101 dX10_partInLowest_44 (by first | omega | (simp only [sA_same, sA_s, ud_s, Int.reduceEq, if_true, if_false, ite_true, ite_false, ↓reduceIte, and_true, true_and, eq_self, Int.add_zero, Int.reduceAdd]; omega) | (simp (disch := omega) only [sA_same, sA_ne, ud_eq, ud_ne, Int.add_zero, Int.reduceAdd]; omega)) rfl ?_
      refine v_i2l (n := 46) xB_101 dX10_partInLowest_45 rfl ?_
      refine v_lreturn xB_101 dX10_partInLowest_46 xK_101 ?_
      have e2 : s = gcF a b := by rw [hs.1, ← ps_gc ha hb]; unfold psF; rw [show b + 1 - 2 = b - 1 by omega]
      subst e2
      refine q_eqL o1 ?_
      unfold loF
      first | rw [if_pos (by omega)] | rw [if_neg (by omega)]
    · refine v_iload_n (n := 39) xB_101 dX10_partInLowest_38 rfl rfl ?_
      refine v_goto (t := 43) xB_101 dX10_partInLowest_39 (by decide) rfl ?_
      refine v_iload_n (n := 44) xB_101 dX10_partInLowest_43 rfl rfl ?_
      refine v_idiv (n := 45) xB_101 dX10_partInLowest_44 (by first | omega | (simp only [sA_same, sA_s, ud_s, Int.reduceEq, if_true, if_false, ite_true, ite_false, ↓reduceIte, and_true, true_and, eq_self, Int.add_zero, Int.reduceAdd]; omega) | (simp (disch := omega) only [sA_same, sA_ne, ud_eq, ud_ne, Int.add_zero, Int.reduceAdd]; omega)) rfl ?_
      refine v_i2l (n := 46) xB_101 dX10_partInLowest_45 rfl ?_
      refine v_lreturn xB_101 dX10_partInLowest_46 xK_101 ?_
      have e2 : s = gcF a b := by rw [hs.1, ← ps_gc ha hb]; unfold psF; rw [show b + 1 - 2 = b - 1 by omega]
      subst e2
      refine q_eqL o1 ?_
      unfold loF
      first | rw [if_pos (by omega)] | rw [if_neg (by omega)]
  · intro k m' h1 h2 hm ih s hs
    show V d 101 (5, ([some (.inl a), some (.inl b), some (.inl p), some (.inl s), some (.inl (k))], ([], (m', (none, (dy, L)))))) Q
    subst hm
    refine v_iload (n := 7) xB_101 dX10_partInLowest_5 rfl rfl ?_
    refine v_iload_n (n := 8) xB_101 dX10_partInLowest_7 rfl rfl ?_
    refine v_ic_gt_n (n := 11) xB_101 dX10_partInLowest_8 (by decide) rfl (by first | omega | (simp only [sA_same, sA_s, ud_s, Int.reduceEq, if_true, if_false, ite_true, ite_false, ↓reduceIte, and_true, true_and, eq_self, Int.add_zero, Int.reduceAdd]; omega) | (simp (disch := omega) only [sA_same, sA_ne, ud_eq, ud_ne, Int.add_zero, Int.reduceAdd]; omega)) ?_
    refine v_iload_n (n := 12) xB_101 dX10_partInLowest_11 rfl rfl ?_
    refine v_iload (n := 14) xB_101 dX10_partInLowest_12 rfl rfl ?_
    refine v_irem (n := 15) xB_101 dX10_partInLowest_14 (by first | omega | (simp only [sA_same, sA_s, ud_s, Int.reduceEq, if_true, if_false, ite_true, ite_false, ↓reduceIte, and_true, true_and, eq_self, Int.add_zero, Int.reduceAdd]; omega) | (simp (disch := omega) only [sA_same, sA_ne, ud_eq, ud_ne, Int.add_zero, Int.reduceAdd]; omega)) rfl ?_
    refine v_if_ne (t := 28) (n := 18) xB_101 dX10_partInLowest_15 (by decide) rfl rfl (fun g1 => ?_) (fun g1 => ?_)
    · refine v_iinc4 (n := 31) xB_101 dX10_partInLowest_28 rfl (by first | omega | (simp only [sA_same, sA_s, ud_s, Int.reduceEq, if_true, if_false, ite_true, ite_false, ↓reduceIte, and_true, true_and, eq_self, Int.add_zero, Int.reduceAdd]; omega) | (simp (disch := omega) only [sA_same, sA_ne, ud_eq, ud_ne, Int.add_zero, Int.reduceAdd]; omega)) rfl ?_
      refine v_goto (t := 5) xB_101 dX10_partInLowest_31 (by decide) rfl ?_
      first
      | exact ih _ rfl _ ⟨by rw [show (k + 1 - 2).toNat = (k - 2 + 1).toNat by omega, itN_s (by omega), show k - 2 + 2 = k by omega, if_pos (by omega)], by omega⟩
      | exact ih _ rfl _ ⟨by rw [show (k + 1 - 2).toNat = (k - 2 + 1).toNat by omega, itN_s (by omega), show k - 2 + 2 = k by omega, if_neg (by omega)]; exact hs.1, by omega⟩
    · refine v_iload_n (n := 19) xB_101 dX10_partInLowest_18 rfl rfl ?_
      refine v_iload (n := 21) xB_101 dX10_partInLowest_19 rfl rfl ?_
      refine v_irem (n := 22) xB_101 dX10_partInLowest_21 (by first | omega | (simp only [sA_same, sA_s, ud_s, Int.reduceEq, if_true, if_false, ite_true, ite_false, ↓reduceIte, and_true, true_and, eq_self, Int.add_zero, Int.reduceAdd]; omega) | (simp (disch := omega) only [sA_same, sA_ne, ud_eq, ud_ne, Int.add_zero, Int.reduceAdd]; omega)) rfl ?_
      refine v_if_ne (t := 28) (n := 25) xB_101 dX10_partInLowest_22 (by decide) rfl rfl (fun g2 => ?_) (fun g2 => ?_)
      · refine v_iinc4 (n := 31) xB_101 dX10_partInLowest_28 rfl (by first | omega | (simp only [sA_same, sA_s, ud_s, Int.reduceEq, if_true, if_false, ite_true, ite_false, ↓reduceIte, and_true, true_and, eq_self, Int.add_zero, Int.reduceAdd]; omega) | (simp (disch := omega) only [sA_same, sA_ne, ud_eq, ud_ne, Int.add_zero, Int.reduceAdd]; omega)) rfl ?_
        refine v_goto (t := 5) xB_101 dX10_partInLowest_31 (by decide) rfl ?_
        first
        | exact ih _ rfl _ ⟨by rw [show (k + 1 - 2).toNat = (k - 2 + 1).toNat by omega, itN_s (by omega), show k - 2 + 2 = k by omega, if_pos (by omega)], by omega⟩
        | exact ih _ rfl _ ⟨by rw [show (k + 1 - 2).toNat = (k - 2 + 1).toNat by omega, itN_s (by omega), show k - 2 + 2 = k by omega, if_neg (by omega)]; exact hs.1, by omega⟩
      · refine v_iload (n := 27) xB_101 dX10_partInLowest_25 rfl rfl ?_
        refine v_istore_n3 (n := 28) xB_101 dX10_partInLowest_27 rfl rfl ?_
        refine v_iinc4 (n := 31) xB_101 dX10_partInLowest_28 rfl (by first | omega | (simp only [sA_same, sA_s, ud_s, Int.reduceEq, if_true, if_false, ite_true, ite_false, ↓reduceIte, and_true, true_and, eq_self, Int.add_zero, Int.reduceAdd]; omega) | (simp (disch := omega) only [sA_same, sA_ne, ud_eq, ud_ne, Int.add_zero, Int.reduceAdd]; omega)) rfl ?_
        refine v_goto (t := 5) xB_101 dX10_partInLowest_31 (by decide) rfl ?_
        first
        | exact ih _ rfl _ ⟨by rw [show (k + 1 - 2).toNat = (k - 2 + 1).toNat by omega, itN_s (by omega), show k - 2 + 2 = k by omega, if_pos (by omega)], by omega⟩
        | exact ih _ rfl _ ⟨by rw [show (k + 1 - 2).toNat = (k - 2 + 1).toNat by omega, itN_s (by omega), show k - 2 + 2 = k by omega, if_neg (by omega)]; exact hs.1, by omega⟩
  · rfl
set_option maxHeartbeats 1000000 in
theorem k_odds {d : Nat} {m0 : PM} {CF : Int → CLs} {j q p : Int} {m : PM} {dy : List (Nat × Nat)} {L : Nat} {Q : Option PV → PS → Prop} (hd : 7 ≤ d) (hI : Inv m0 m dy) (hJ : JF m dy CF) (o1 : ∀ m' : PM, KFr m m' → Q (some (.inr (.inl (OD m CF j q p)))) (m', (none, (dy, L)))) : C d 99 [.inr (.inr 0), .inl j, .inl q, .inl p] (m, (none, (dy, L))) Q := by
  refine C_go (k := 6) hd xL_99 (fun d hd => ?_)
  show V d 99 (0, ([some (.inr (.inr 0)), some (.inl j), some (.inl q), some (.inl p), none, none], ([], (m, (none, (dy, L)))))) Q
  obtain ⟨s1, s2, t1, t2, j1, j2⟩ := If hI
  refine v_aload_n (n := 1) xB_99 dX10_odds_0 rfl rfl ?_
  refine v_iload_n (n := 2) xB_99 dX10_odds_1 rfl rfl ?_
  refine v_call_v (n := 5) xB_99 dX10_odds_2 xO_99 iv_10_162 rfl (sh_0 _ _ _) rfl rfl rfl ?_
  refine k_isJob (by omega) (by first | omega | (simp only [sA_same, sA_s, ud_s, Int.reduceEq, if_true, if_false, ite_true, ite_false, ↓reduceIte, and_true, true_and, eq_self, Int.add_zero, Int.reduceAdd]; omega) | (simp (disch := omega) only [sA_same, sA_ne, ud_eq, ud_ne, Int.add_zero, Int.reduceAdd]; omega)) (fun g1 => ?_) (fun g2 => ?_)
  · refine v_if_eq_n (n := 8) xB_99 dX10_odds_5 (by decide) rfl (by decide) ?_
    refine v_iload_n (n := 9) xB_99 dX10_odds_8 rfl rfl ?_
    refine v_iconst (n := 10) xB_99 dX10_odds_9 ⟨by decide, by decide⟩ rfl ?_
    refine v_bipush (n := 12) xB_99 dX10_odds_10 ⟨by decide, by decide⟩ rfl ?_
    refine v_call_s (n := 15) xB_99 dX10_odds_12 xO_99 sp_10_69 (Or.inl rfl) iv_10_69 rfl rfl rfl rfl ?_
    refine k_isWithin (by omega)  (fun g3 => ?_) (fun g4 => ?_)
    · refine v_if_eq_n (n := 18) xB_99 dX10_odds_15 (by decide) rfl (by decide) ?_
      refine v_iload_n (n := 19) xB_99 dX10_odds_18 rfl rfl ?_
      refine v_call_s (n := 22) xB_99 dX10_odds_19 xO_99 sp_10_82 (Or.inl rfl) iv_10_82 rfl rfl rfl rfl ?_
      refine k_isEither (by omega)  (fun g5 => ?_) (fun g6 => ?_)
      · refine v_if_eq_n (n := 25) xB_99 dX10_odds_22 (by decide) rfl (by decide) ?_
        refine v_aload_n (n := 26) xB_99 dX10_odds_25 rfl rfl ?_
        refine v_gf_s (n := 29) (kz := 0) xB_99 dX10_odds_26 xO_99 fl_10_12 fg_10_0 (sh_0 _ _ _) rfl st_0_0 rfl ?_
        refine v_gf_i (n := 32) (kz := 2) xB_99 dX10_odds_29 xO_99 fl_10_65 fg_6_2 rfl (sh_1 _ _ _) rfl rfl ?_
        refine v_if_ne (t := 39) (n := 35) xB_99 dX10_odds_32 (by decide) rfl rfl (fun g7 => ?_) (fun g7 => ?_)
        · refine v_iconst (n := 40) xB_99 dX10_odds_39 ⟨by decide, by decide⟩ rfl ?_
          refine v_istore4 (n := 42) xB_99 dX10_odds_40 rfl rfl ?_
          refine v_iconst (n := 43) xB_99 dX10_odds_42 ⟨by decide, by decide⟩ rfl ?_
          refine v_istore5 (n := 45) xB_99 dX10_odds_43 rfl rfl ?_
          refine lp_up (F := fun (k : Int) (m' : PM) => ∀ e : Int, e = itN (OS m CF j q) k.toNat 0 ∧ 0 ≤ e ∧ e ≤ k → V d 99 (45, ([some (.inr (.inr 0)), some (.inl j), some (.inl q), some (.inl p), some (.inl e), some (.inl (k))], ([], (m', (none, (dy, L)))))) Q) (E := fun (k : Int) (m' : PM) => KFr m (m')) (a := 0) (b := m 81 0) ?_ ?_ (0) (_) (by first | omega | (simp only [sA_same, sA_s, ud_s, Int.reduceEq, if_true, if_false, ite_true, ite_false, ↓reduceIte, and_true, true_and, eq_self, Int.add_zero, Int.reduceAdd]; omega) | (simp (disch := omega) only [sA_same, sA_ne, ud_eq, ud_ne, Int.add_zero, Int.reduceAdd]; omega)) (by first | omega | (simp only [sA_same, sA_s, ud_s, Int.reduceEq, if_true, if_false, ite_true, ite_false, ↓reduceIte, and_true, true_and, eq_self, Int.add_zero, Int.reduceAdd]; omega) | (simp (disch := omega) only [sA_same, sA_ne, ud_eq, ud_ne, Int.add_zero, Int.reduceAdd]; omega)) ?_ _ ⟨rfl, Int.le_refl 0, Int.le_refl 0⟩
          · intro m' hm e he
            show V d 99 (45, ([some (.inr (.inr 0)), some (.inl j), some (.inl q), some (.inl p), some (.inl e), some (.inl (m 81 0))], ([], (m', (none, (dy, L)))))) Q
            have e12 : m' 1 2 = m 81 0 := by rw [hm.1 1 (by omega)]; exact t2
            have e0 : m' 81 0 = m 81 0 := by rw [hm.1 81 (by omega)]
            have e5 : m' 81 5 = m 81 5 := by rw [hm.1 81 (by omega)]
            have e22 : m' 81 22 = m 81 22 := by rw [hm.1 81 (by omega)]
            refine v_iload (n := 47) xB_99 dX10_odds_45 rfl rfl ?_
            refine v_aload_n (n := 48) xB_99 dX10_odds_47 rfl rfl ?_
            refine v_gf_s (n := 51) (kz := 0) xB_99 dX10_odds_48 xO_99 fl_10_12 fg_10_0 (sh_0 _ _ _) rfl st_0_0 rfl ?_
            refine v_gf_i (n := 54) (kz := 2) xB_99 dX10_odds_51 xO_99 fl_10_65 fg_6_2 rfl (sh_1 _ _ _) rfl rfl ?_
            refine v_ic_ge_y (t := 77) xB_99 dX10_odds_54 (by decide) rfl (by first | omega | (simp only [sA_same, sA_s, ud_s, Int.reduceEq, if_true, if_false, ite_true, ite_false, ↓reduceIte, and_true, true_and, eq_self, Int.add_zero, Int.reduceAdd]; omega) | (simp (disch := omega) only [sA_same, sA_ne, ud_eq, ud_ne, Int.add_zero, Int.reduceAdd]; omega)) ?_
            refine v_iload (n := 79) xB_99 dX10_odds_77 rfl rfl ?_
            refine v_aload_n (n := 80) xB_99 dX10_odds_79 rfl rfl ?_
            refine v_gf_s (n := 83) (kz := 0) xB_99 dX10_odds_80 xO_99 fl_10_12 fg_10_0 (sh_0 _ _ _) rfl st_0_0 rfl ?_
            refine v_gf_i (n := 86) (kz := 2) xB_99 dX10_odds_83 xO_99 fl_10_65 fg_6_2 rfl (sh_1 _ _ _) rfl rfl ?_
            refine v_iload_n (n := 87) xB_99 dX10_odds_86 rfl rfl ?_
            refine v_call_s (n := 90) xB_99 dX10_odds_87 xO_99 sp_10_233 (Or.inl rfl) iv_10_233 rfl rfl rfl rfl ?_
            refine k_lowest (by omega) (by first | omega | (simp only [sA_same, sA_s, ud_s, Int.reduceEq, if_true, if_false, ite_true, ite_false, ↓reduceIte, and_true, true_and, eq_self, Int.add_zero, Int.reduceAdd]; omega) | (simp (disch := omega) only [sA_same, sA_ne, ud_eq, ud_ne, Int.add_zero, Int.reduceAdd]; omega)) (by first | omega | (simp only [sA_same, sA_s, ud_s, Int.reduceEq, if_true, if_false, ite_true, ite_false, ↓reduceIte, and_true, true_and, eq_self, Int.add_zero, Int.reduceAdd]; omega) | (simp (disch := omega) only [sA_same, sA_ne, ud_eq, ud_ne, Int.add_zero, Int.reduceAdd]; omega)) (by first | omega | (simp only [sA_same, sA_s, ud_s, Int.reduceEq, if_true, if_false, ite_true, ite_false, ↓reduceIte, and_true, true_and, eq_self, Int.add_zero, Int.reduceAdd]; omega) | (simp (disch := omega) only [sA_same, sA_ne, ud_eq, ud_ne, Int.add_zero, Int.reduceAdd]; omega)) ?_
            (try rw [e12])
            refine v_lreturn xB_99 dX10_odds_90 xK_99 ?_
            refine q_eqL (o1 _ hm) ?_
            unfold OD
            rw [if_pos (by omega), he.1]
          · intro k m' h1 h2 hm ih e he
            show V d 99 (45, ([some (.inr (.inr 0)), some (.inl j), some (.inl q), some (.inl p), some (.inl e), some (.inl (k))], ([], (m', (none, (dy, L)))))) Q
            have e12 : m' 1 2 = m 81 0 := by rw [hm.1 1 (by omega)]; exact t2
            have e0 : m' 81 0 = m 81 0 := by rw [hm.1 81 (by omega)]
            have e5 : m' 81 5 = m 81 5 := by rw [hm.1 81 (by omega)]
            have e22 : m' 81 22 = m 81 22 := by rw [hm.1 81 (by omega)]
            have rb := RT_in s1 CF k j
            refine v_iload (n := 47) xB_99 dX10_odds_45 rfl rfl ?_
            refine v_aload_n (n := 48) xB_99 dX10_odds_47 rfl rfl ?_
            refine v_gf_s (n := 51) (kz := 0) xB_99 dX10_odds_48 xO_99 fl_10_12 fg_10_0 (sh_0 _ _ _) rfl st_0_0 rfl ?_
            refine v_gf_i (n := 54) (kz := 2) xB_99 dX10_odds_51 xO_99 fl_10_65 fg_6_2 rfl (sh_1 _ _ _) rfl rfl ?_
            refine v_ic_ge_n (n := 57) xB_99 dX10_odds_54 (by decide) rfl (by first | omega | (simp only [sA_same, sA_s, ud_s, Int.reduceEq, if_true, if_false, ite_true, ite_false, ↓reduceIte, and_true, true_and, eq_self, Int.add_zero, Int.reduceAdd]; omega) | (simp (disch := omega) only [sA_same, sA_ne, ud_eq, ud_ne, Int.add_zero, Int.reduceAdd]; omega)) ?_
            refine v_aload_n (n := 58) xB_99 dX10_odds_57 rfl rfl ?_
            refine v_iload (n := 60) xB_99 dX10_odds_58 rfl rfl ?_
            refine v_iload_n (n := 61) xB_99 dX10_odds_60 rfl rfl ?_
            refine v_call_v (n := 64) xB_99 dX10_odds_61 xO_99 iv_10_186 rfl (sh_0 _ _ _) rfl rfl rfl ?_
            refine k_rightsAfter (by omega) (Inv_K hI hm) (JF_K hJ hm) (by first | omega | (simp only [sA_same, sA_s, ud_s, Int.reduceEq, if_true, if_false, ite_true, ite_false, ↓reduceIte, and_true, true_and, eq_self, Int.add_zero, Int.reduceAdd]; omega) | (simp (disch := omega) only [sA_same, sA_ne, ud_eq, ud_ne, Int.add_zero, Int.reduceAdd]; omega)) (by first | omega | (simp only [sA_same, sA_s, ud_s, Int.reduceEq, if_true, if_false, ite_true, ite_false, ↓reduceIte, and_true, true_and, eq_self, Int.add_zero, Int.reduceAdd]; omega) | (simp (disch := omega) only [sA_same, sA_ne, ud_eq, ud_ne, Int.add_zero, Int.reduceAdd]; omega)) (fun mA hK => ?_)
            have hm2 := KFr_trans hm hK
            rw [RT_AE (AE_K hm)]
            refine v_iload_n (n := 65) xB_99 dX10_odds_64 rfl rfl ?_
            refine v_ic_lt (t := 71) (n := 68) xB_99 dX10_odds_65 (by decide) rfl rfl (fun g1 => ?_) (fun g1 => ?_)
            · refine v_iinc5 (n := 74) xB_99 dX10_odds_71 rfl (by first | omega | (simp only [sA_same, sA_s, ud_s, Int.reduceEq, if_true, if_false, ite_true, ite_false, ↓reduceIte, and_true, true_and, eq_self, Int.add_zero, Int.reduceAdd]; omega) | (simp (disch := omega) only [sA_same, sA_ne, ud_eq, ud_ne, Int.add_zero, Int.reduceAdd]; omega)) rfl ?_
              refine v_goto (t := 45) xB_99 dX10_odds_74 (by decide) rfl ?_
              first
              | exact ih _ hm2 _ ⟨by rw [itN_s h1, ← he.1]; exact (if_pos (by omega)).symm, by omega, by omega⟩
              | exact ih _ hm2 _ ⟨by rw [itN_s h1, ← he.1]; exact (if_neg (by omega)).symm, by omega, by omega⟩
            · refine v_iinc4 (n := 71) xB_99 dX10_odds_68 rfl (by first | omega | (simp only [sA_same, sA_s, ud_s, Int.reduceEq, if_true, if_false, ite_true, ite_false, ↓reduceIte, and_true, true_and, eq_self, Int.add_zero, Int.reduceAdd]; omega) | (simp (disch := omega) only [sA_same, sA_ne, ud_eq, ud_ne, Int.add_zero, Int.reduceAdd]; omega)) rfl ?_
              refine v_iinc5 (n := 74) xB_99 dX10_odds_71 rfl (by first | omega | (simp only [sA_same, sA_s, ud_s, Int.reduceEq, if_true, if_false, ite_true, ite_false, ↓reduceIte, and_true, true_and, eq_self, Int.add_zero, Int.reduceAdd]; omega) | (simp (disch := omega) only [sA_same, sA_ne, ud_eq, ud_ne, Int.add_zero, Int.reduceAdd]; omega)) rfl ?_
              refine v_goto (t := 45) xB_99 dX10_odds_74 (by decide) rfl ?_
              first
              | exact ih _ hm2 _ ⟨by rw [itN_s h1, ← he.1]; exact (if_pos (by omega)).symm, by omega, by omega⟩
              | exact ih _ hm2 _ ⟨by rw [itN_s h1, ← he.1]; exact (if_neg (by omega)).symm, by omega, by omega⟩
          · exact KFr_refl hI
        · refine v_ldc2 (n := 38) xB_99 dX10_odds_35 xO_99 l2_10_231 rfl ?_
          refine v_lreturn xB_99 dX10_odds_38 xK_99 ?_
          refine q_eqL (o1 _ (KFr_refl hI)) ?_
          unfold OD
          rw [if_neg (by omega)]; rfl
      · refine v_if_eq_y (t := 35) xB_99 dX10_odds_22 (by decide) rfl (by decide) ?_
        refine v_ldc2 (n := 38) xB_99 dX10_odds_35 xO_99 l2_10_231 rfl ?_
        refine v_lreturn xB_99 dX10_odds_38 xK_99 ?_
        refine q_eqL (o1 _ (KFr_refl hI)) ?_
        unfold OD
        rw [if_neg (by omega)]; rfl
    · refine v_if_eq_y (t := 35) xB_99 dX10_odds_15 (by decide) rfl (by decide) ?_
      refine v_ldc2 (n := 38) xB_99 dX10_odds_35 xO_99 l2_10_231 rfl ?_
      refine v_lreturn xB_99 dX10_odds_38 xK_99 ?_
      refine q_eqL (o1 _ (KFr_refl hI)) ?_
      unfold OD
      rw [if_neg (by omega)]; rfl
  · refine v_if_eq_y (t := 35) xB_99 dX10_odds_5 (by decide) rfl (by decide) ?_
    refine v_ldc2 (n := 38) xB_99 dX10_odds_35 xO_99 l2_10_231 rfl ?_
    refine v_lreturn xB_99 dX10_odds_38 xK_99 ?_
    refine q_eqL (o1 _ (KFr_refl hI)) ?_
    unfold OD
    rw [if_neg (by omega)]; rfl
set_option maxHeartbeats 1000000 in
theorem k_mean {d : Nat} {m0 : PM} {CF : Int → CLs} {j p : Int} {m : PM} {dy : List (Nat × Nat)} {L : Nat} {Q : Option PV → PS → Prop} (hd : 7 ≤ d) (hI : Inv m0 m dy) (hJ : JF m dy CF) (o1 : ∀ m' : PM, KFr m m' → Q (some (.inr (.inl (ME m CF j p)))) (m', (none, (dy, L)))) : C d 100 [.inr (.inr 0), .inl j, .inl p] (m, (none, (dy, L))) Q := by
  refine C_go (k := 6) hd xL_100 (fun d hd => ?_)
  show V d 100 (0, ([some (.inr (.inr 0)), some (.inl j), some (.inl p), none, none], ([], (m, (none, (dy, L)))))) Q
  obtain ⟨s1, s2, t1, t2, j1, j2⟩ := If hI
  refine v_aload_n (n := 1) xB_100 dX10_mean_0 rfl rfl ?_
  refine v_iload_n (n := 2) xB_100 dX10_mean_1 rfl rfl ?_
  refine v_call_v (n := 5) xB_100 dX10_mean_2 xO_100 iv_10_162 rfl (sh_0 _ _ _) rfl rfl rfl ?_
  refine k_isJob (by omega) (by first | omega | (simp only [sA_same, sA_s, ud_s, Int.reduceEq, if_true, if_false, ite_true, ite_false, ↓reduceIte, and_true, true_and, eq_self, Int.add_zero, Int.reduceAdd]; omega) | (simp (disch := omega) only [sA_same, sA_ne, ud_eq, ud_ne, Int.add_zero, Int.reduceAdd]; omega)) (fun g1 => ?_) (fun g2 => ?_)
  · refine v_if_eq_n (n := 8) xB_100 dX10_mean_5 (by decide) rfl (by decide) ?_
    refine v_iload_n (n := 9) xB_100 dX10_mean_8 rfl rfl ?_
    refine v_call_s (n := 12) xB_100 dX10_mean_9 xO_100 sp_10_82 (Or.inl rfl) iv_10_82 rfl rfl rfl rfl ?_
    refine k_isEither (by omega)  (fun g3 => ?_) (fun g4 => ?_)
    · refine v_if_eq_n (n := 15) xB_100 dX10_mean_12 (by decide) rfl (by decide) ?_
      refine v_aload_n (n := 16) xB_100 dX10_mean_15 rfl rfl ?_
      refine v_gf_s (n := 19) (kz := 0) xB_100 dX10_mean_16 xO_100 fl_10_12 fg_10_0 (sh_0 _ _ _) rfl st_0_0 rfl ?_
      refine v_gf_i (n := 22) (kz := 2) xB_100 dX10_mean_19 xO_100 fl_10_65 fg_6_2 rfl (sh_1 _ _ _) rfl rfl ?_
      refine v_if_ne (t := 29) (n := 25) xB_100 dX10_mean_22 (by decide) rfl rfl (fun g5 => ?_) (fun g5 => ?_)
      · refine v_iconst (n := 30) xB_100 dX10_mean_29 ⟨by decide, by decide⟩ rfl ?_
        refine v_istore_n3 (n := 31) xB_100 dX10_mean_30 rfl rfl ?_
        refine v_iconst (n := 32) xB_100 dX10_mean_31 ⟨by decide, by decide⟩ rfl ?_
        refine v_istore4 (n := 34) xB_100 dX10_mean_32 rfl rfl ?_
        refine lp_up (F := fun (k : Int) (m' : PM) => ∀ e : Int, e = itN (MS m CF j) k.toNat 0 ∧ 0 ≤ e ∧ e ≤ 12 * k → V d 100 (34, ([some (.inr (.inr 0)), some (.inl j), some (.inl p), some (.inl e), some (.inl (k))], ([], (m', (none, (dy, L)))))) Q) (E := fun (k : Int) (m' : PM) => KFr m (m')) (a := 0) (b := m 81 0) ?_ ?_ (0) (_) (by first | omega | (simp only [sA_same, sA_s, ud_s, Int.reduceEq, if_true, if_false, ite_true, ite_false, ↓reduceIte, and_true, true_and, eq_self, Int.add_zero, Int.reduceAdd]; omega) | (simp (disch := omega) only [sA_same, sA_ne, ud_eq, ud_ne, Int.add_zero, Int.reduceAdd]; omega)) (by first | omega | (simp only [sA_same, sA_s, ud_s, Int.reduceEq, if_true, if_false, ite_true, ite_false, ↓reduceIte, and_true, true_and, eq_self, Int.add_zero, Int.reduceAdd]; omega) | (simp (disch := omega) only [sA_same, sA_ne, ud_eq, ud_ne, Int.add_zero, Int.reduceAdd]; omega)) ?_ _ ⟨rfl, Int.le_refl 0, Int.le_refl 0⟩
        · intro m' hm e he
          show V d 100 (34, ([some (.inr (.inr 0)), some (.inl j), some (.inl p), some (.inl e), some (.inl (m 81 0))], ([], (m', (none, (dy, L)))))) Q
          have e12 : m' 1 2 = m 81 0 := by rw [hm.1 1 (by omega)]; exact t2
          have e0 : m' 81 0 = m 81 0 := by rw [hm.1 81 (by omega)]
          have e5 : m' 81 5 = m 81 5 := by rw [hm.1 81 (by omega)]
          have e22 : m' 81 22 = m 81 22 := by rw [hm.1 81 (by omega)]
          refine v_iload (n := 36) xB_100 dX10_mean_34 rfl rfl ?_
          refine v_aload_n (n := 37) xB_100 dX10_mean_36 rfl rfl ?_
          refine v_gf_s (n := 40) (kz := 0) xB_100 dX10_mean_37 xO_100 fl_10_12 fg_10_0 (sh_0 _ _ _) rfl st_0_0 rfl ?_
          refine v_gf_i (n := 43) (kz := 2) xB_100 dX10_mean_40 xO_100 fl_10_65 fg_6_2 rfl (sh_1 _ _ _) rfl rfl ?_
          refine v_ic_ge_y (t := 62) xB_100 dX10_mean_43 (by decide) rfl (by first | omega | (simp only [sA_same, sA_s, ud_s, Int.reduceEq, if_true, if_false, ite_true, ite_false, ↓reduceIte, and_true, true_and, eq_self, Int.add_zero, Int.reduceAdd]; omega) | (simp (disch := omega) only [sA_same, sA_ne, ud_eq, ud_ne, Int.add_zero, Int.reduceAdd]; omega)) ?_
          refine v_iload_n (n := 63) xB_100 dX10_mean_62 rfl rfl ?_
          refine v_aload_n (n := 64) xB_100 dX10_mean_63 rfl rfl ?_
          refine v_gf_s (n := 67) (kz := 0) xB_100 dX10_mean_64 xO_100 fl_10_12 fg_10_0 (sh_0 _ _ _) rfl st_0_0 rfl ?_
          refine v_gf_i (n := 70) (kz := 2) xB_100 dX10_mean_67 xO_100 fl_10_65 fg_6_2 rfl (sh_1 _ _ _) rfl rfl ?_
          refine v_iload_n (n := 71) xB_100 dX10_mean_70 rfl rfl ?_
          refine v_call_s (n := 74) xB_100 dX10_mean_71 xO_100 sp_10_233 (Or.inl rfl) iv_10_233 rfl rfl rfl rfl ?_
          refine k_lowest (by omega) (by first | omega | (simp only [sA_same, sA_s, ud_s, Int.reduceEq, if_true, if_false, ite_true, ite_false, ↓reduceIte, and_true, true_and, eq_self, Int.add_zero, Int.reduceAdd]; omega) | (simp (disch := omega) only [sA_same, sA_ne, ud_eq, ud_ne, Int.add_zero, Int.reduceAdd]; omega)) (by first | omega | (simp only [sA_same, sA_s, ud_s, Int.reduceEq, if_true, if_false, ite_true, ite_false, ↓reduceIte, and_true, true_and, eq_self, Int.add_zero, Int.reduceAdd]; omega) | (simp (disch := omega) only [sA_same, sA_ne, ud_eq, ud_ne, Int.add_zero, Int.reduceAdd]; omega)) (by first | omega | (simp only [sA_same, sA_s, ud_s, Int.reduceEq, if_true, if_false, ite_true, ite_false, ↓reduceIte, and_true, true_and, eq_self, Int.add_zero, Int.reduceAdd]; omega) | (simp (disch := omega) only [sA_same, sA_ne, ud_eq, ud_ne, Int.add_zero, Int.reduceAdd]; omega)) ?_
          (try rw [e12])
          refine v_lreturn xB_100 dX10_mean_74 xK_100 ?_
          refine q_eqL (o1 _ hm) ?_
          unfold ME
          rw [if_pos (by omega), he.1]
        · intro k m' h1 h2 hm ih e he
          show V d 100 (34, ([some (.inr (.inr 0)), some (.inl j), some (.inl p), some (.inl e), some (.inl (k))], ([], (m', (none, (dy, L)))))) Q
          have e12 : m' 1 2 = m 81 0 := by rw [hm.1 1 (by omega)]; exact t2
          have e0 : m' 81 0 = m 81 0 := by rw [hm.1 81 (by omega)]
          have e5 : m' 81 5 = m 81 5 := by rw [hm.1 81 (by omega)]
          have e22 : m' 81 22 = m 81 22 := by rw [hm.1 81 (by omega)]
          have rb := RT_in s1 CF k j
          refine v_iload (n := 36) xB_100 dX10_mean_34 rfl rfl ?_
          refine v_aload_n (n := 37) xB_100 dX10_mean_36 rfl rfl ?_
          refine v_gf_s (n := 40) (kz := 0) xB_100 dX10_mean_37 xO_100 fl_10_12 fg_10_0 (sh_0 _ _ _) rfl st_0_0 rfl ?_
          refine v_gf_i (n := 43) (kz := 2) xB_100 dX10_mean_40 xO_100 fl_10_65 fg_6_2 rfl (sh_1 _ _ _) rfl rfl ?_
          refine v_ic_ge_n (n := 46) xB_100 dX10_mean_43 (by decide) rfl (by first | omega | (simp only [sA_same, sA_s, ud_s, Int.reduceEq, if_true, if_false, ite_true, ite_false, ↓reduceIte, and_true, true_and, eq_self, Int.add_zero, Int.reduceAdd]; omega) | (simp (disch := omega) only [sA_same, sA_ne, ud_eq, ud_ne, Int.add_zero, Int.reduceAdd]; omega)) ?_
          refine v_iload_n (n := 47) xB_100 dX10_mean_46 rfl rfl ?_
          refine v_aload_n (n := 48) xB_100 dX10_mean_47 rfl rfl ?_
          refine v_iload (n := 50) xB_100 dX10_mean_48 rfl rfl ?_
          refine v_iload_n (n := 51) xB_100 dX10_mean_50 rfl rfl ?_
          refine v_call_v (n := 54) xB_100 dX10_mean_51 xO_100 iv_10_186 rfl (sh_0 _ _ _) rfl rfl rfl ?_
          refine k_rightsAfter (by omega) (Inv_K hI hm) (JF_K hJ hm) (by first | omega | (simp only [sA_same, sA_s, ud_s, Int.reduceEq, if_true, if_false, ite_true, ite_false, ↓reduceIte, and_true, true_and, eq_self, Int.add_zero, Int.reduceAdd]; omega) | (simp (disch := omega) only [sA_same, sA_ne, ud_eq, ud_ne, Int.add_zero, Int.reduceAdd]; omega)) (by first | omega | (simp only [sA_same, sA_s, ud_s, Int.reduceEq, if_true, if_false, ite_true, ite_false, ↓reduceIte, and_true, true_and, eq_self, Int.add_zero, Int.reduceAdd]; omega) | (simp (disch := omega) only [sA_same, sA_ne, ud_eq, ud_ne, Int.add_zero, Int.reduceAdd]; omega)) (fun mA hK => ?_)
          have hm2 := KFr_trans hm hK
          rw [RT_AE (AE_K hm)]
          refine v_iadd (n := 55) xB_100 dX10_mean_54 (by first | omega | (simp only [sA_same, sA_s, ud_s, Int.reduceEq, if_true, if_false, ite_true, ite_false, ↓reduceIte, and_true, true_and, eq_self, Int.add_zero, Int.reduceAdd]; omega) | (simp (disch := omega) only [sA_same, sA_ne, ud_eq, ud_ne, Int.add_zero, Int.reduceAdd]; omega)) rfl ?_
          refine v_istore_n3 (n := 56) xB_100 dX10_mean_55 rfl rfl ?_
          refine v_iinc4 (n := 59) xB_100 dX10_mean_56 rfl (by first | omega | (simp only [sA_same, sA_s, ud_s, Int.reduceEq, if_true, if_false, ite_true, ite_false, ↓reduceIte, and_true, true_and, eq_self, Int.add_zero, Int.reduceAdd]; omega) | (simp (disch := omega) only [sA_same, sA_ne, ud_eq, ud_ne, Int.add_zero, Int.reduceAdd]; omega)) rfl ?_
          refine v_goto (t := 34) xB_100 dX10_mean_59 (by decide) rfl ?_
          exact ih _ hm2 _ ⟨by rw [itN_s h1, ← he.1]; rfl, by omega, by omega⟩
        · exact KFr_refl hI
      · refine v_ldc2 (n := 28) xB_100 dX10_mean_25 xO_100 l2_10_231 rfl ?_
        refine v_lreturn xB_100 dX10_mean_28 xK_100 ?_
        refine q_eqL (o1 _ (KFr_refl hI)) ?_
        unfold ME
        rw [if_neg (by omega)]; rfl
    · refine v_if_eq_y (t := 25) xB_100 dX10_mean_12 (by decide) rfl (by decide) ?_
      refine v_ldc2 (n := 28) xB_100 dX10_mean_25 xO_100 l2_10_231 rfl ?_
      refine v_lreturn xB_100 dX10_mean_28 xK_100 ?_
      refine q_eqL (o1 _ (KFr_refl hI)) ?_
      unfold ME
      rw [if_neg (by omega)]; rfl
  · refine v_if_eq_y (t := 25) xB_100 dX10_mean_5 (by decide) rfl (by decide) ?_
    refine v_ldc2 (n := 28) xB_100 dX10_mean_25 xO_100 l2_10_231 rfl ?_
    refine v_lreturn xB_100 dX10_mean_28 xK_100 ?_
    refine q_eqL (o1 _ (KFr_refl hI)) ?_
    unfold ME
    rw [if_neg (by omega)]; rfl
