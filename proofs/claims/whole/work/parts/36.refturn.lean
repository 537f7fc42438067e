/-! The reference: the stack turned, a sheet printed and put out. -/
def pk (a x b y : Int) : Int := a + 128 * x + 256 * b + 32768 * y
theorem pkA_s (sd dn : Int → Int) (s : Int) : pkA sd dn s = pk (sd (2 * s)) (dn (2 * s)) (sd (2 * s + 1)) (dn (2 * s + 1)) := rfl
theorem ov_pk {a x b y : Int} (ha : 0 ≤ a ∧ a < 128) (hx : x = 0 ∨ x = 1) (hb : 0 ≤ b ∧ b < 128) (hy : y = 0 ∨ y = 1) : ovF (pk a x b y) = pk b y a x := by
  unfold ovF pk; rcases hx with rfl | rfl <;> rcases hy with rfl | rfl <;> omega
theorem abt_pk {a x b y : Int} (ha : 0 ≤ a ∧ a < 128) (hx : x = 0 ∨ x = 1) (hb : 0 ≤ b ∧ b < 128) (hy : y = 0 ∨ y = 1) : abt (pk a x b y) = pk a (1 - x) b (1 - y) := by
  unfold abt pk; rcases hx with rfl | rfl <;> rcases hy with rfl | rfl <;> omega
theorem wp_pk0 {x b y p : Int} (dn : Bool) (hx : x = 0 ∨ x = 1) (hb : 0 ≤ b ∧ b < 128) (hy : y = 0 ∨ y = 1) : wpF (pk 0 x b y) p dn = pk p (if dn = true then 1 else 0) b y := by
  unfold wpF pk; rw [if_pos (by omega)]; rcases hx with rfl | rfl <;> rcases hy with rfl | rfl <;> cases dn <;> simp only [if_true, Bool.false_eq_true, if_false] <;> omega
theorem wp_pk1 {a x b y p : Int} (dn : Bool) (ha : 0 < a ∧ a < 128) (hx : x = 0 ∨ x = 1) (hb : 0 ≤ b ∧ b < 128) (hy : y = 0 ∨ y = 1) : wpF (pk a x b y) p dn = pk 99 0 b y := by
  unfold wpF pk; rw [if_neg (by omega)]; rcases hx with rfl | rfl <;> rcases hy with rfl | rfl <;> omega
def mir (f : Int → Int) (N s : Int) : Int → Int := fun j => if 0 ≤ j ∧ j < 2 * N ∧ (j < 2 * s ∨ 2 * (N - s) ≤ j) then f (2 * (N - 1 - j / 2) + j % 2) else f j
theorem mir_full {f : Int → Int} {N j : Int} (h : 0 ≤ j ∧ j < 2 * N) : mir f N (N / 2) j = f (2 * (N - 1 - j / 2) + j % 2) := by
  unfold mir; split
  · rfl
  · congr 1; omega
theorem mir_0 (f : Int → Int) (N : Int) : mir f N 0 = f := by
  funext j; unfold mir; rw [if_neg (by omega)]
theorem bl_mir {f : Int → Int} (h : bl f) (N s : Int) : bl (mir f N s) := by
  intro j; unfold mir; split
  · exact h _
  · exact h _
theorem pgs_mir {f : Int → Int} (h : pgs f) (N s : Int) : pgs (mir f N s) := by
  intro j; unfold mir; split
  · exact h _
  · exact h _
theorem bl_sw {f : Int → Int} (h : bl f) (N : Int) : bl (ivl (fun j => f (j + 1 - 2 * (j % 2))) f 0 (2 * N)) := bl_ivl (fun _ => h _) h _ _
set_option maxHeartbeats 1000000 in
theorem c_turnsOver {d : Nat}  {m : PM} {dy : List (Nat × Nat)} {L : Nat} {Q : Option PV → PS → Prop} (hd : 2 ≤ d) (hN : 0 ≤ m 81 22 ∧ m 81 22 ≤ 12) (hb : bl (m 99)) (hp : pgs (m 96)) (o1 : ∀ sd dn : Int → Int, bl dn → pgs sd → (∀ s, 0 ≤ s → s < m 81 22 → pkA sd dn s = ovF (pkA (m 96) (m 99) (m 81 22 - 1 - s))) → Q (none) (setA (setA m 96 (sd)) 99 (dn), (none, (dy, L)))) : C d 155 [.inr (.inr 81)] (m, (none, (dy, L))) Q := by
  refine C_go (k := 1) hd xL_155 (fun d hd => ?_)
  show V d 155 (0, ([some (.inr (.inr 81)), none, none, none, none, none], ([], (m, (none, (dy, L)))))) Q
  refine v_iconst (n := 1) xB_155 dX11_turnsOver_0 ⟨by decide, by decide⟩ rfl ?_
  refine v_istore_n1 (n := 2) xB_155 dX11_turnsOver_1 rfl rfl ?_
  refine lp_up (F := fun (k : Int) (m' : PM) => V d 155 (2, ([some (.inr (.inr 81)), some (.inl (k)), none, none, none, none], ([], (m', (none, (dy, L)))))) Q) (E := fun (k : Int) (m' : PM) => m' = setA (setA m 96 (ivl (fun j => m 96 (j + 1 - 2 * (j % 2))) (m 96) 0 (2 * k))) 99 (ivl (fun j => m 99 (j + 1 - 2 * (j % 2))) (m 99) 0 (2 * k))) (a := 0) (b := m 81 22) ?_ ?_ (0) (_) (by first | omega | (simp only [sA_same, sA_s, ud_s, Int.reduceEq, if_true, if_false, ite_true, ite_false, ↓reduceIte, and_true, true_and, eq_self, Int.add_zero, Int.reduceAdd]; omega)) (by first | omega | (simp only [sA_same, sA_s, ud_s, Int.reduceEq, if_true, if_false, ite_true, ite_false, ↓reduceIte, and_true, true_and, eq_self, Int.add_zero, Int.reduceAdd]; omega)) ?_
  · intro m' hm 
    show V d 155 (2, ([some (.inr (.inr 81)), some (.inl (m 81 22)), none, none, none, none], ([], (m', (none, (dy, L)))))) Q
    subst hm
    refine v_iload_n (n := 3) xB_155 dX11_turnsOver_2 rfl rfl ?_
    refine v_aload_n (n := 4) xB_155 dX11_turnsOver_3 rfl rfl ?_
    refine v_gf_i (n := 7) (kz := 22) xB_155 dX11_turnsOver_4 xO_155 fl_11_78 fg_11_22 rfl (sh_81 _ _ _) rfl rfl ?_
    refine v_ic_ge_y (t := 21) xB_155 dX11_turnsOver_7 (by decide) rfl (by first | omega | (simp only [sA_same, sA_s, ud_s, Int.reduceEq, if_true, if_false, ite_true, ite_false, ↓reduceIte, and_true, true_and, eq_self, Int.add_zero, Int.reduceAdd]; omega)) ?_
    refine v_iconst (n := 22) xB_155 dX11_turnsOver_21 ⟨by decide, by decide⟩ rfl ?_
    refine v_istore_n1 (n := 23) xB_155 dX11_turnsOver_22 rfl rfl ?_
    refine lp_up (F := fun (k : Int) (m' : PM) => ∀ x2 x3 x4 x5 : Option PV, V d 155 (23, ([some (.inr (.inr 81)), some (.inl (k)), x2, x3, x4, x5], ([], (m', (none, (dy, L)))))) Q) (E := fun (k : Int) (m' : PM) => m' = setA (setA m 96 (mir (ivl (fun j => m 96 (j + 1 - 2 * (j % 2))) (m 96) 0 (2 * m 81 22)) (m 81 22) (k))) 99 (mir (ivl (fun j => m 99 (j + 1 - 2 * (j % 2))) (m 99) 0 (2 * m 81 22)) (m 81 22) (k))) (a := 0) (b := m 81 22 / 2) ?_ ?_ (0) (_) (by first | omega | (simp only [sA_same, sA_s, ud_s, Int.reduceEq, if_true, if_false, ite_true, ite_false, ↓reduceIte, and_true, true_and, eq_self, Int.add_zero, Int.reduceAdd]; omega)) (by first | omega | (simp only [sA_same, sA_s, ud_s, Int.reduceEq, if_true, if_false, ite_true, ite_false, ↓reduceIte, and_true, true_and, eq_self, Int.add_zero, Int.reduceAdd]; omega)) ?_ _ _ _ _
    · intro m' hm x2 x3 x4 x5
      show V d 155 (23, ([some (.inr (.inr 81)), some (.inl (m 81 22 / 2)), x2, x3, x4, x5], ([], (m', (none, (dy, L)))))) Q
      subst hm
      refine v_iload_n (n := 24) xB_155 dX11_turnsOver_23 rfl rfl ?_
      refine v_aload_n (n := 25) xB_155 dX11_turnsOver_24 rfl rfl ?_
      refine v_gf_i (n := 28) (kz := 22) xB_155 dX11_turnsOver_25 xO_155 fl_11_78 fg_11_22 rfl (sh_81 _ _ _) rfl rfl ?_
      refine v_iconst (n := 29) xB_155 dX11_turnsOver_28 ⟨by decide, by decide⟩ rfl ?_
      refine v_idiv (n := 30) xB_155 dX11_turnsOver_29 (by first | omega | (simp only [sA_same, sA_s, ud_s, Int.reduceEq, if_true, if_false, ite_true, ite_false, ↓reduceIte, and_true, true_and, eq_self, Int.add_zero, Int.reduceAdd]; omega)) rfl ?_
      refine v_ic_ge_y (t := 149) xB_155 dX11_turnsOver_30 (by decide) rfl (by first | omega | (simp only [sA_same, sA_s, ud_s, Int.reduceEq, if_true, if_false, ite_true, ite_false, ↓reduceIte, and_true, true_and, eq_self, Int.add_zero, Int.reduceAdd]; omega)) ?_
      refine v_return xB_155 dX11_turnsOver_149 xK_155 ?_
      refine o1 _ _ (bl_mir (bl_ivl (fun _ => hb _) hb _ _) _ _) (pgs_mir (pgs_ivl (fun _ => hp _) hp _ _) _ _) ?_
      intro s h1 h2
      rw [pkA_s, pkA_s, ov_pk (hp _) (hb _) (hp _) (hb _), mir_full (by omega), mir_full (by omega), mir_full (by omega), mir_full (by omega)]
      simp (disch := omega) only [ivl_in]
      congr 2 <;> omega
    · intro k m' h1 h2 hm ih x2 x3 x4 x5
      show V d 155 (23, ([some (.inr (.inr 81)), some (.inl (k)), x2, x3, x4, x5], ([], (m', (none, (dy, L)))))) Q
      subst hm
      have r1 := bl_mir (bl_sw hb (m 81 22)) (m 81 22) k (2 * k)
      have r2 := bl_mir (bl_sw hb (m 81 22)) (m 81 22) k (2 * k + 1)
      have r3 := bl_mir (bl_sw hb (m 81 22)) (m 81 22) k (2 * (m 81 22 - 1 - k))
      have r4 := bl_mir (bl_sw hb (m 81 22)) (m 81 22) k (2 * (m 81 22 - 1 - k) + 1)
      refine v_iload_n (n := 24) xB_155 dX11_turnsOver_23 rfl rfl ?_
      refine v_aload_n (n := 25) xB_155 dX11_turnsOver_24 rfl rfl ?_
      refine v_gf_i (n := 28) (kz := 22) xB_155 dX11_turnsOver_25 xO_155 fl_11_78 fg_11_22 rfl (sh_81 _ _ _) rfl rfl ?_
      refine v_iconst (n := 29) xB_155 dX11_turnsOver_28 ⟨by decide, by decide⟩ rfl ?_
      refine v_idiv (n := 30) xB_155 dX11_turnsOver_29 (by first | omega | (simp only [sA_same, sA_s, ud_s, Int.reduceEq, if_true, if_false, ite_true, ite_false, ↓reduceIte, and_true, true_and, eq_self, Int.add_zero, Int.reduceAdd]; omega)) rfl ?_
      refine v_ic_ge_n (n := 33) xB_155 dX11_turnsOver_30 (by decide) rfl (by first | omega | (simp only [sA_same, sA_s, ud_s, Int.reduceEq, if_true, if_false, ite_true, ite_false, ↓reduceIte, and_true, true_and, eq_self, Int.add_zero, Int.reduceAdd]; omega)) ?_
      refine v_aload_n (n := 34) xB_155 dX11_turnsOver_33 rfl rfl ?_
      refine v_gf_i (n := 37) (kz := 22) xB_155 dX11_turnsOver_34 xO_155 fl_11_78 fg_11_22 rfl (sh_81 _ _ _) rfl rfl ?_
      refine v_iconst (n := 38) xB_155 dX11_turnsOver_37 ⟨by decide, by decide⟩ rfl ?_
      refine v_isub (n := 39) xB_155 dX11_turnsOver_38 (by first | omega | (simp only [sA_same, sA_s, ud_s, Int.reduceEq, if_true, if_false, ite_true, ite_false, ↓reduceIte, and_true, true_and, eq_self, Int.add_zero, Int.reduceAdd]; omega)) rfl ?_
      refine v_iload_n (n := 40) xB_155 dX11_turnsOver_39 rfl rfl ?_
      refine v_isub (n := 41) xB_155 dX11_turnsOver_40 (by first | omega | (simp only [sA_same, sA_s, ud_s, Int.reduceEq, if_true, if_false, ite_true, ite_false, ↓reduceIte, and_true, true_and, eq_self, Int.add_zero, Int.reduceAdd]; omega)) rfl ?_
      refine v_istore_n2 (n := 42) xB_155 dX11_turnsOver_41 rfl rfl ?_
      refine v_iconst (n := 43) xB_155 dX11_turnsOver_42 ⟨by decide, by decide⟩ rfl ?_
      refine v_istore_n3 (n := 44) xB_155 dX11_turnsOver_43 rfl rfl ?_
      refine v_iload_n (n := 45) xB_155 dX11_turnsOver_44 rfl rfl ?_
      refine v_iconst (n := 46) xB_155 dX11_turnsOver_45 ⟨by decide, by decide⟩ rfl ?_
      refine v_ic_ge_n (n := 49) xB_155 dX11_turnsOver_46 (by decide) rfl (by decide) ?_
      refine v_aload_n (n := 50) xB_155 dX11_turnsOver_49 rfl rfl ?_
      refine v_gf_s (n := 53) (kz := 23) xB_155 dX11_turnsOver_50 xO_155 fl_11_81 fg_11_23 (sh_81 _ _ _) rfl st_81_23 rfl ?_
      refine v_iconst (n := 54) xB_155 dX11_turnsOver_53 ⟨by decide, by decide⟩ rfl ?_
      refine v_iload_n (n := 55) xB_155 dX11_turnsOver_54 rfl rfl ?_
      refine v_imul (n := 56) xB_155 dX11_turnsOver_55 (by first | omega | (simp only [sA_same, sA_s, ud_s, Int.reduceEq, if_true, if_false, ite_true, ite_false, ↓reduceIte, and_true, true_and, eq_self, Int.add_zero, Int.reduceAdd]; omega)) rfl ?_
      refine v_iload_n (n := 57) xB_155 dX11_turnsOver_56 rfl rfl ?_
      refine v_iadd (n := 58) xB_155 dX11_turnsOver_57 (by first | omega | (simp only [sA_same, sA_s, ud_s, Int.reduceEq, if_true, if_false, ite_true, ite_false, ↓reduceIte, and_true, true_and, eq_self, Int.add_zero, Int.reduceAdd]; omega)) rfl ?_
      refine v_iaload (n := 59) (lz := 24) xB_155 dX11_turnsOver_58 (sh_96 _ _ _) rfl (by first | omega | (simp only [sA_same, sA_s, ud_s, Int.reduceEq, if_true, if_false, ite_true, ite_false, ↓reduceIte, and_true, true_and, eq_self, Int.add_zero, Int.reduceAdd]; omega)) rfl ?_
      refine v_istore4 (n := 61) xB_155 dX11_turnsOver_59 rfl rfl ?_
      refine v_aload_n (n := 62) xB_155 dX11_turnsOver_61 rfl rfl ?_
      refine v_gf_s (n := 65) (kz := 26) xB_155 dX11_turnsOver_62 xO_155 fl_11_90 fg_11_26 (sh_81 _ _ _) rfl st_81_26 rfl ?_
      refine v_iconst (n := 66) xB_155 dX11_turnsOver_65 ⟨by decide, by decide⟩ rfl ?_
      refine v_iload_n (n := 67) xB_155 dX11_turnsOver_66 rfl rfl ?_
      refine v_imul (n := 68) xB_155 dX11_turnsOver_67 (by first | omega | (simp only [sA_same, sA_s, ud_s, Int.reduceEq, if_true, if_false, ite_true, ite_false, ↓reduceIte, and_true, true_and, eq_self, Int.add_zero, Int.reduceAdd]; omega)) rfl ?_
      refine v_iload_n (n := 69) xB_155 dX11_turnsOver_68 rfl rfl ?_
      refine v_iadd (n := 70) xB_155 dX11_turnsOver_69 (by first | omega | (simp only [sA_same, sA_s, ud_s, Int.reduceEq, if_true, if_false, ite_true, ite_false, ↓reduceIte, and_true, true_and, eq_self, Int.add_zero, Int.reduceAdd]; omega)) rfl ?_
      refine v_baload (n := 71) (lz := 24) xB_155 dX11_turnsOver_70 (sh_99 _ _ _) rfl (by first | omega | (simp only [sA_same, sA_s, ud_s, Int.reduceEq, if_true, if_false, ite_true, ite_false, ↓reduceIte, and_true, true_and, eq_self, Int.add_zero, Int.reduceAdd]; omega)) rfl ?_
      refine v_istore5 (n := 73) xB_155 dX11_turnsOver_71 rfl rfl ?_
      refine v_aload_n (n := 74) xB_155 dX11_turnsOver_73 rfl rfl ?_
      refine v_gf_s (n := 77) (kz := 23) xB_155 dX11_turnsOver_74 xO_155 fl_11_81 fg_11_23 (sh_81 _ _ _) rfl st_81_23 rfl ?_
      refine v_iconst (n := 78) xB_155 dX11_turnsOver_77 ⟨by decide, by decide⟩ rfl ?_
      refine v_iload_n (n := 79) xB_155 dX11_turnsOver_78 rfl rfl ?_
      refine v_imul (n := 80) xB_155 dX11_turnsOver_79 (by first | omega | (simp only [sA_same, sA_s, ud_s, Int.reduceEq, if_true, if_false, ite_true, ite_false, ↓reduceIte, and_true, true_and, eq_self, Int.add_zero, Int.reduceAdd]; omega)) rfl ?_
      refine v_iload_n (n := 81) xB_155 dX11_turnsOver_80 rfl rfl ?_
      refine v_iadd (n := 82) xB_155 dX11_turnsOver_81 (by first | omega | (simp only [sA_same, sA_s, ud_s, Int.reduceEq, if_true, if_false, ite_true, ite_false, ↓reduceIte, and_true, true_and, eq_self, Int.add_zero, Int.reduceAdd]; omega)) rfl ?_
      refine v_aload_n (n := 83) xB_155 dX11_turnsOver_82 rfl rfl ?_
      refine v_gf_s (n := 86) (kz := 23) xB_155 dX11_turnsOver_83 xO_155 fl_11_81 fg_11_23 (sh_81 _ _ _) rfl st_81_23 rfl ?_
      refine v_iconst (n := 87) xB_155 dX11_turnsOver_86 ⟨by decide, by decide⟩ rfl ?_
      refine v_iload_n (n := 88) xB_155 dX11_turnsOver_87 rfl rfl ?_
      refine v_imul (n := 89) xB_155 dX11_turnsOver_88 (by first | omega | (simp only [sA_same, sA_s, ud_s, Int.reduceEq, if_true, if_false, ite_true, ite_false, ↓reduceIte, and_true, true_and, eq_self, Int.add_zero, Int.reduceAdd]; omega)) rfl ?_
      refine v_iload_n (n := 90) xB_155 dX11_turnsOver_89 rfl rfl ?_
      refine v_iadd (n := 91) xB_155 dX11_turnsOver_90 (by first | omega | (simp only [sA_same, sA_s, ud_s, Int.reduceEq, if_true, if_false, ite_true, ite_false, ↓reduceIte, and_true, true_and, eq_self, Int.add_zero, Int.reduceAdd]; omega)) rfl ?_
      refine v_iaload (n := 92) (lz := 24) xB_155 dX11_turnsOver_91 (sh_96 _ _ _) rfl (by first | omega | (simp only [sA_same, sA_s, ud_s, Int.reduceEq, if_true, if_false, ite_true, ite_false, ↓reduceIte, and_true, true_and, eq_self, Int.add_zero, Int.reduceAdd]; omega)) rfl ?_
      refine v_iastore (n := 93) (lz := 24) xB_155 dX11_turnsOver_92 (sh_96 _ _ _) (by decide) rfl (by first | omega | (simp only [sA_same, sA_s, ud_s, Int.reduceEq, if_true, if_false, ite_true, ite_false, ↓reduceIte, and_true, true_and, eq_self, Int.add_zero, Int.reduceAdd]; omega)) rfl ?_
      (try simp (disch := omega) only [sA_same, sA_ne, sA_sA, sA_sr, sB_s, ud_eq, ud_ne, ud_ud, ud_sr, uB_s, Int.add_zero, Int.reduceAdd])
      refine v_aload_n (n := 94) xB_155 dX11_turnsOver_93 rfl rfl ?_
      refine v_gf_s (n := 97) (kz := 26) xB_155 dX11_turnsOver_94 xO_155 fl_11_90 fg_11_26 (sh_81 _ _ _) rfl st_81_26 rfl ?_
      refine v_iconst (n := 98) xB_155 dX11_turnsOver_97 ⟨by decide, by decide⟩ rfl ?_
      refine v_iload_n (n := 99) xB_155 dX11_turnsOver_98 rfl rfl ?_
      refine v_imul (n := 100) xB_155 dX11_turnsOver_99 (by first | omega | (simp only [sA_same, sA_s, ud_s, Int.reduceEq, if_true, if_false, ite_true, ite_false, ↓reduceIte, and_true, true_and, eq_self, Int.add_zero, Int.reduceAdd]; omega)) rfl ?_
      refine v_iload_n (n := 101) xB_155 dX11_turnsOver_100 rfl rfl ?_
      refine v_iadd (n := 102) xB_155 dX11_turnsOver_101 (by first | omega | (simp only [sA_same, sA_s, ud_s, Int.reduceEq, if_true, if_false, ite_true, ite_false, ↓reduceIte, and_true, true_and, eq_self, Int.add_zero, Int.reduceAdd]; omega)) rfl ?_
      refine v_aload_n (n := 103) xB_155 dX11_turnsOver_102 rfl rfl ?_
      refine v_gf_s (n := 106) (kz := 26) xB_155 dX11_turnsOver_103 xO_155 fl_11_90 fg_11_26 (sh_81 _ _ _) rfl st_81_26 rfl ?_
      refine v_iconst (n := 107) xB_155 dX11_turnsOver_106 ⟨by decide, by decide⟩ rfl ?_
      refine v_iload_n (n := 108) xB_155 dX11_turnsOver_107 rfl rfl ?_
      refine v_imul (n := 109) xB_155 dX11_turnsOver_108 (by first | omega | (simp only [sA_same, sA_s, ud_s, Int.reduceEq, if_true, if_false, ite_true, ite_false, ↓reduceIte, and_true, true_and, eq_self, Int.add_zero, Int.reduceAdd]; omega)) rfl ?_
      refine v_iload_n (n := 110) xB_155 dX11_turnsOver_109 rfl rfl ?_
      refine v_iadd (n := 111) xB_155 dX11_turnsOver_110 (by first | omega | (simp only [sA_same, sA_s, ud_s, Int.reduceEq, if_true, if_false, ite_true, ite_false, ↓reduceIte, and_true, true_and, eq_self, Int.add_zero, Int.reduceAdd]; omega)) rfl ?_
      refine v_baload (n := 112) (lz := 24) xB_155 dX11_turnsOver_111 (sh_99 _ _ _) rfl (by first | omega | (simp only [sA_same, sA_s, ud_s, Int.reduceEq, if_true, if_false, ite_true, ite_false, ↓reduceIte, and_true, true_and, eq_self, Int.add_zero, Int.reduceAdd]; omega)) rfl ?_
      refine v_bastore01 (n := 113) (lz := 24) xB_155 dX11_turnsOver_112 (sh_99 _ _ _) (by decide) rfl (by first | omega | (simp only [sA_same, sA_s, ud_s, Int.reduceEq, if_true, if_false, ite_true, ite_false, ↓reduceIte, and_true, true_and, eq_self, Int.add_zero, Int.reduceAdd]; omega)) (by first | omega | (simp only [sA_same, sA_s, ud_s, Int.reduceEq, if_true, if_false, ite_true, ite_false, ↓reduceIte, and_true, true_and, eq_self, Int.add_zero, Int.reduceAdd]; omega)) rfl ?_
      (try simp (disch := omega) only [sA_same, sA_ne, sA_sA, sA_sr, sB_s, ud_eq, ud_ne, ud_ud, ud_sr, uB_s, Int.add_zero, Int.reduceAdd])
      refine v_aload_n (n := 114) xB_155 dX11_turnsOver_113 rfl rfl ?_
      refine v_gf_s (n := 117) (kz := 23) xB_155 dX11_turnsOver_114 xO_155 fl_11_81 fg_11_23 (sh_81 _ _ _) rfl st_81_23 rfl ?_
      refine v_iconst (n := 118) xB_155 dX11_turnsOver_117 ⟨by decide, by decide⟩ rfl ?_
      refine v_iload_n (n := 119) xB_155 dX11_turnsOver_118 rfl rfl ?_
      refine v_imul (n := 120) xB_155 dX11_turnsOver_119 (by first | omega | (simp only [sA_same, sA_s, ud_s, Int.reduceEq, if_true, if_false, ite_true, ite_false, ↓reduceIte, and_true, true_and, eq_self, Int.add_zero, Int.reduceAdd]; omega)) rfl ?_
      refine v_iload_n (n := 121) xB_155 dX11_turnsOver_120 rfl rfl ?_
      refine v_iadd (n := 122) xB_155 dX11_turnsOver_121 (by first | omega | (simp only [sA_same, sA_s, ud_s, Int.reduceEq, if_true, if_false, ite_true, ite_false, ↓reduceIte, and_true, true_and, eq_self, Int.add_zero, Int.reduceAdd]; omega)) rfl ?_
      refine v_iload (n := 124) xB_155 dX11_turnsOver_122 rfl rfl ?_
      refine v_iastore (n := 125) (lz := 24) xB_155 dX11_turnsOver_124 (sh_96 _ _ _) (by decide) rfl (by first | omega | (simp only [sA_same, sA_s, ud_s, Int.reduceEq, if_true, if_false, ite_true, ite_false, ↓reduceIte, and_true, true_and, eq_self, Int.add_zero, Int.reduceAdd]; omega)) rfl ?_
      (try simp (disch := omega) only [sA_same, sA_ne, sA_sA, sA_sr, sB_s, ud_eq, ud_ne, ud_ud, ud_sr, uB_s, Int.add_zero, Int.reduceAdd])
      refine v_aload_n (n := 126) xB_155 dX11_turnsOver_125 rfl rfl ?_
      refine v_gf_s (n := 129) (kz := 26) xB_155 dX11_turnsOver_126 xO_155 fl_11_90 fg_11_26 (sh_81 _ _ _) rfl st_81_26 rfl ?_
      refine v_iconst (n := 130) xB_155 dX11_turnsOver_129 ⟨by decide, by decide⟩ rfl ?_
      refine v_iload_n (n := 131) xB_155 dX11_turnsOver_130 rfl rfl ?_
      refine v_imul (n := 132) xB_155 dX11_turnsOver_131 (by first | omega | (simp only [sA_same, sA_s, ud_s, Int.reduceEq, if_true, if_false, ite_true, ite_false, ↓reduceIte, and_true, true_and, eq_self, Int.add_zero, Int.reduceAdd]; omega)) rfl ?_
      refine v_iload_n (n := 133) xB_155 dX11_turnsOver_132 rfl rfl ?_
      refine v_iadd (n := 134) xB_155 dX11_turnsOver_133 (by first | omega | (simp only [sA_same, sA_s, ud_s, Int.reduceEq, if_true, if_false, ite_true, ite_false, ↓reduceIte, and_true, true_and, eq_self, Int.add_zero, Int.reduceAdd]; omega)) rfl ?_
      refine v_iload (n := 136) xB_155 dX11_turnsOver_134 rfl rfl ?_
      refine v_bastore01 (n := 137) (lz := 24) xB_155 dX11_turnsOver_136 (sh_99 _ _ _) (by decide) rfl (by first | omega | (simp only [sA_same, sA_s, ud_s, Int.reduceEq, if_true, if_false, ite_true, ite_false, ↓reduceIte, and_true, true_and, eq_self, Int.add_zero, Int.reduceAdd]; omega)) (by first | omega | (simp only [sA_same, sA_s, ud_s, Int.reduceEq, if_true, if_false, ite_true, ite_false, ↓reduceIte, and_true, true_and, eq_self, Int.add_zero, Int.reduceAdd]; omega)) rfl ?_
      (try simp (disch := omega) only [sA_same, sA_ne, sA_sA, sA_sr, sB_s, ud_eq, ud_ne, ud_ud, ud_sr, uB_s, Int.add_zero, Int.reduceAdd])
      refine v_iinc3 (n := 140) xB_155 dX11_turnsOver_137 rfl (by first | omega | (simp only [sA_same, sA_s, ud_s, Int.reduceEq, if_true, if_false, ite_true, ite_false, ↓reduceIte, and_true, true_and, eq_self, Int.add_zero, Int.reduceAdd]; omega)) rfl ?_
      refine v_goto (t := 44) xB_155 dX11_turnsOver_140 (by decide) rfl ?_
      refine v_iload_n (n := 45) xB_155 dX11_turnsOver_44 rfl rfl ?_
      refine v_iconst (n := 46) xB_155 dX11_turnsOver_45 ⟨by decide, by decide⟩ rfl ?_
      refine v_ic_ge_n (n := 49) xB_155 dX11_turnsOver_46 (by decide) rfl (by decide) ?_
      refine v_aload_n (n := 50) xB_155 dX11_turnsOver_49 rfl rfl ?_
      refine v_gf_s (n := 53) (kz := 23) xB_155 dX11_turnsOver_50 xO_155 fl_11_81 fg_11_23 (sh_81 _ _ _) rfl st_81_23 rfl ?_
      refine v_iconst (n := 54) xB_155 dX11_turnsOver_53 ⟨by decide, by decide⟩ rfl ?_
      refine v_iload_n (n := 55) xB_155 dX11_turnsOver_54 rfl rfl ?_
      refine v_imul (n := 56) xB_155 dX11_turnsOver_55 (by first | omega | (simp only [sA_same, sA_s, ud_s, Int.reduceEq, if_true, if_false, ite_true, ite_false, ↓reduceIte, and_true, true_and, eq_self, Int.add_zero, Int.reduceAdd]; omega)) rfl ?_
      refine v_iload_n (n := 57) xB_155 dX11_turnsOver_56 rfl rfl ?_
      refine v_iadd (n := 58) xB_155 dX11_turnsOver_57 (by first | omega | (simp only [sA_same, sA_s, ud_s, Int.reduceEq, if_true, if_false, ite_true, ite_false, ↓reduceIte, and_true, true_and, eq_self, Int.add_zero, Int.reduceAdd]; omega)) rfl ?_
      refine v_iaload (n := 59) (lz := 24) xB_155 dX11_turnsOver_58 (sh_96 _ _ _) rfl (by first | omega | (simp only [sA_same, sA_s, ud_s, Int.reduceEq, if_true, if_false, ite_true, ite_false, ↓reduceIte, and_true, true_and, eq_self, Int.add_zero, Int.reduceAdd]; omega)) rfl ?_
      refine v_istore4 (n := 61) xB_155 dX11_turnsOver_59 rfl rfl ?_
      refine v_aload_n (n := 62) xB_155 dX11_turnsOver_61 rfl rfl ?_
      refine v_gf_s (n := 65) (kz := 26) xB_155 dX11_turnsOver_62 xO_155 fl_11_90 fg_11_26 (sh_81 _ _ _) rfl st_81_26 rfl ?_
      refine v_iconst (n := 66) xB_155 dX11_turnsOver_65 ⟨by decide, by decide⟩ rfl ?_
      refine v_iload_n (n := 67) xB_155 dX11_turnsOver_66 rfl rfl ?_
      refine v_imul (n := 68) xB_155 dX11_turnsOver_67 (by first | omega | (simp only [sA_same, sA_s, ud_s, Int.reduceEq, if_true, if_false, ite_true, ite_false, ↓reduceIte, and_true, true_and, eq_self, Int.add_zero, Int.reduceAdd]; omega)) rfl ?_
      refine v_iload_n (n := 69) xB_155 dX11_turnsOver_68 rfl rfl ?_
      refine v_iadd (n := 70) xB_155 dX11_turnsOver_69 (by first | omega | (simp only [sA_same, sA_s, ud_s, Int.reduceEq, if_true, if_false, ite_true, ite_false, ↓reduceIte, and_true, true_and, eq_self, Int.add_zero, Int.reduceAdd]; omega)) rfl ?_
      refine v_baload (n := 71) (lz := 24) xB_155 dX11_turnsOver_70 (sh_99 _ _ _) rfl (by first | omega | (simp only [sA_same, sA_s, ud_s, Int.reduceEq, if_true, if_false, ite_true, ite_false, ↓reduceIte, and_true, true_and, eq_self, Int.add_zero, Int.reduceAdd]; omega)) rfl ?_
      refine v_istore5 (n := 73) xB_155 dX11_turnsOver_71 rfl rfl ?_
      refine v_aload_n (n := 74) xB_155 dX11_turnsOver_73 rfl rfl ?_
      refine v_gf_s (n := 77) (kz := 23) xB_155 dX11_turnsOver_74 xO_155 fl_11_81 fg_11_23 (sh_81 _ _ _) rfl st_81_23 rfl ?_
      refine v_iconst (n := 78) xB_155 dX11_turnsOver_77 ⟨by decide, by decide⟩ rfl ?_
      refine v_iload_n (n := 79) xB_155 dX11_turnsOver_78 rfl rfl ?_
      refine v_imul (n := 80) xB_155 dX11_turnsOver_79 (by first | omega | (simp only [sA_same, sA_s, ud_s, Int.reduceEq, if_true, if_false, ite_true, ite_false, ↓reduceIte, and_true, true_and, eq_self, Int.add_zero, Int.reduceAdd]; omega)) rfl ?_
      refine v_iload_n (n := 81) xB_155 dX11_turnsOver_80 rfl rfl ?_
      refine v_iadd (n := 82) xB_155 dX11_turnsOver_81 (by first | omega | (simp only [sA_same, sA_s, ud_s, Int.reduceEq, if_true, if_false, ite_true, ite_false, ↓reduceIte, and_true, true_and, eq_self, Int.add_zero, Int.reduceAdd]; omega)) rfl ?_
      refine v_aload_n (n := 83) xB_155 dX11_turnsOver_82 rfl rfl ?_
      refine v_gf_s (n := 86) (kz := 23) xB_155 dX11_turnsOver_83 xO_155 fl_11_81 fg_11_23 (sh_81 _ _ _) rfl st_81_23 rfl ?_
      refine v_iconst (n := 87) xB_155 dX11_turnsOver_86 ⟨by decide, by decide⟩ rfl ?_
      refine v_iload_n (n := 88) xB_155 dX11_turnsOver_87 rfl rfl ?_
      refine v_imul (n := 89) xB_155 dX11_turnsOver_88 (by first | omega | (simp only [sA_same, sA_s, ud_s, Int.reduceEq, if_true, if_false, ite_true, ite_false, ↓reduceIte, and_true, true_and, eq_self, Int.add_zero, Int.reduceAdd]; omega)) rfl ?_
      refine v_iload_n (n := 90) xB_155 dX11_turnsOver_89 rfl rfl ?_
      refine v_iadd (n := 91) xB_155 dX11_turnsOver_90 (by first | omega | (simp only [sA_same, sA_s, ud_s, Int.reduceEq, if_true, if_false, ite_true, ite_false, ↓reduceIte, and_true, true_and, eq_self, Int.add_zero, Int.reduceAdd]; omega)) rfl ?_
      refine v_iaload (n := 92) (lz := 24) xB_155 dX11_turnsOver_91 (sh_96 _ _ _) rfl (by first | omega | (simp only [sA_same, sA_s, ud_s, Int.reduceEq, if_true, if_false, ite_true, ite_false, ↓reduceIte, and_true, true_and, eq_self, Int.add_zero, Int.reduceAdd]; omega)) rfl ?_
      refine v_iastore (n := 93) (lz := 24) xB_155 dX11_turnsOver_92 (sh_96 _ _ _) (by decide) rfl (by first | omega | (simp only [sA_same, sA_s, ud_s, Int.reduceEq, if_true, if_false, ite_true, ite_false, ↓reduceIte, and_true, true_and, eq_self, Int.add_zero, Int.reduceAdd]; omega)) rfl ?_
      (try simp (disch := omega) only [sA_same, sA_ne, sA_sA, sA_sr, sB_s, ud_eq, ud_ne, ud_ud, ud_sr, uB_s, Int.add_zero, Int.reduceAdd])
      refine v_aload_n (n := 94) xB_155 dX11_turnsOver_93 rfl rfl ?_
      refine v_gf_s (n := 97) (kz := 26) xB_155 dX11_turnsOver_94 xO_155 fl_11_90 fg_11_26 (sh_81 _ _ _) rfl st_81_26 rfl ?_
      refine v_iconst (n := 98) xB_155 dX11_turnsOver_97 ⟨by decide, by decide⟩ rfl ?_
      refine v_iload_n (n := 99) xB_155 dX11_turnsOver_98 rfl rfl ?_
      refine v_imul (n := 100) xB_155 dX11_turnsOver_99 (by first | omega | (simp only [sA_same, sA_s, ud_s, Int.reduceEq, if_true, if_false, ite_true, ite_false, ↓reduceIte, and_true, true_and, eq_self, Int.add_zero, Int.reduceAdd]; omega)) rfl ?_
      refine v_iload_n (n := 101) xB_155 dX11_turnsOver_100 rfl rfl ?_
      refine v_iadd (n := 102) xB_155 dX11_turnsOver_101 (by first | omega | (simp only [sA_same, sA_s, ud_s, Int.reduceEq, if_true, if_false, ite_true, ite_false, ↓reduceIte, and_true, true_and, eq_self, Int.add_zero, Int.reduceAdd]; omega)) rfl ?_
      refine v_aload_n (n := 103) xB_155 dX11_turnsOver_102 rfl rfl ?_
      refine v_gf_s (n := 106) (kz := 26) xB_155 dX11_turnsOver_103 xO_155 fl_11_90 fg_11_26 (sh_81 _ _ _) rfl st_81_26 rfl ?_
      refine v_iconst (n := 107) xB_155 dX11_turnsOver_106 ⟨by decide, by decide⟩ rfl ?_
      refine v_iload_n (n := 108) xB_155 dX11_turnsOver_107 rfl rfl ?_
      refine v_imul (n := 109) xB_155 dX11_turnsOver_108 (by first | omega | (simp only [sA_same, sA_s, ud_s, Int.reduceEq, if_true, if_false, ite_true, ite_false, ↓reduceIte, and_true, true_and, eq_self, Int.add_zero, Int.reduceAdd]; omega)) rfl ?_
      refine v_iload_n (n := 110) xB_155 dX11_turnsOver_109 rfl rfl ?_
      refine v_iadd (n := 111) xB_155 dX11_turnsOver_110 (by first | omega | (simp only [sA_same, sA_s, ud_s, Int.reduceEq, if_true, if_false, ite_true, ite_false, ↓reduceIte, and_true, true_and, eq_self, Int.add_zero, Int.reduceAdd]; omega)) rfl ?_
      refine v_baload (n := 112) (lz := 24) xB_155 dX11_turnsOver_111 (sh_99 _ _ _) rfl (by first | omega | (simp only [sA_same, sA_s, ud_s, Int.reduceEq, if_true, if_false, ite_true, ite_false, ↓reduceIte, and_true, true_and, eq_self, Int.add_zero, Int.reduceAdd]; omega)) rfl ?_
      refine v_bastore01 (n := 113) (lz := 24) xB_155 dX11_turnsOver_112 (sh_99 _ _ _) (by decide) rfl (by first | omega | (simp only [sA_same, sA_s, ud_s, Int.reduceEq, if_true, if_false, ite_true, ite_false, ↓reduceIte, and_true, true_and, eq_self, Int.add_zero, Int.reduceAdd]; omega)) (by first | omega | (simp only [sA_same, sA_s, ud_s, Int.reduceEq, if_true, if_false, ite_true, ite_false, ↓reduceIte, and_true, true_and, eq_self, Int.add_zero, Int.reduceAdd]; omega)) rfl ?_
      (try simp (disch := omega) only [sA_same, sA_ne, sA_sA, sA_sr, sB_s, ud_eq, ud_ne, ud_ud, ud_sr, uB_s, Int.add_zero, Int.reduceAdd])
      refine v_aload_n (n := 114) xB_155 dX11_turnsOver_113 rfl rfl ?_
      refine v_gf_s (n := 117) (kz := 23) xB_155 dX11_turnsOver_114 xO_155 fl_11_81 fg_11_23 (sh_81 _ _ _) rfl st_81_23 rfl ?_
      refine v_iconst (n := 118) xB_155 dX11_turnsOver_117 ⟨by decide, by decide⟩ rfl ?_
      refine v_iload_n (n := 119) xB_155 dX11_turnsOver_118 rfl rfl ?_
      refine v_imul (n := 120) xB_155 dX11_turnsOver_119 (by first | omega | (simp only [sA_same, sA_s, ud_s, Int.reduceEq, if_true, if_false, ite_true, ite_false, ↓reduceIte, and_true, true_and, eq_self, Int.add_zero, Int.reduceAdd]; omega)) rfl ?_
      refine v_iload_n (n := 121) xB_155 dX11_turnsOver_120 rfl rfl ?_
      refine v_iadd (n := 122) xB_155 dX11_turnsOver_121 (by first | omega | (simp only [sA_same, sA_s, ud_s, Int.reduceEq, if_true, if_false, ite_true, ite_false, ↓reduceIte, and_true, true_and, eq_self, Int.add_zero, Int.reduceAdd]; omega)) rfl ?_
      refine v_iload (n := 124) xB_155 dX11_turnsOver_122 rfl rfl ?_
      refine v_iastore (n := 125) (lz := 24) xB_155 dX11_turnsOver_124 (sh_96 _ _ _) (by decide) rfl (by first | omega | (simp only [sA_same, sA_s, ud_s, Int.reduceEq, if_true, if_false, ite_true, ite_false, ↓reduceIte, and_true, true_and, eq_self, Int.add_zero, Int.reduceAdd]; omega)) rfl ?_
      (try simp (disch := omega) only [sA_same, sA_ne, sA_sA, sA_sr, sB_s, ud_eq, ud_ne, ud_ud, ud_sr, uB_s, Int.add_zero, Int.reduceAdd])
      refine v_aload_n (n := 126) xB_155 dX11_turnsOver_125 rfl rfl ?_
      refine v_gf_s (n := 129) (kz := 26) xB_155 dX11_turnsOver_126 xO_155 fl_11_90 fg_11_26 (sh_81 _ _ _) rfl st_81_26 rfl ?_
      refine v_iconst (n := 130) xB_155 dX11_turnsOver_129 ⟨by decide, by decide⟩ rfl ?_
      refine v_iload_n (n := 131) xB_155 dX11_turnsOver_130 rfl rfl ?_
      refine v_imul (n := 132) xB_155 dX11_turnsOver_131 (by first | omega | (simp only [sA_same, sA_s, ud_s, Int.reduceEq, if_true, if_false, ite_true, ite_false, ↓reduceIte, and_true, true_and, eq_self, Int.add_zero, Int.reduceAdd]; omega)) rfl ?_
      refine v_iload_n (n := 133) xB_155 dX11_turnsOver_132 rfl rfl ?_
      refine v_iadd (n := 134) xB_155 dX11_turnsOver_133 (by first | omega | (simp only [sA_same, sA_s, ud_s, Int.reduceEq, if_true, if_false, ite_true, ite_false, ↓reduceIte, and_true, true_and, eq_self, Int.add_zero, Int.reduceAdd]; omega)) rfl ?_
      refine v_iload (n := 136) xB_155 dX11_turnsOver_134 rfl rfl ?_
      refine v_bastore01 (n := 137) (lz := 24) xB_155 dX11_turnsOver_136 (sh_99 _ _ _) (by decide) rfl (by first | omega | (simp only [sA_same, sA_s, ud_s, Int.reduceEq, if_true, if_false, ite_true, ite_false, ↓reduceIte, and_true, true_and, eq_self, Int.add_zero, Int.reduceAdd]; omega)) (by first | omega | (simp only [sA_same, sA_s, ud_s, Int.reduceEq, if_true, if_false, ite_true, ite_false, ↓reduceIte, and_true, true_and, eq_self, Int.add_zero, Int.reduceAdd]; omega)) rfl ?_
      (try simp (disch := omega) only [sA_same, sA_ne, sA_sA, sA_sr, sB_s, ud_eq, ud_ne, ud_ud, ud_sr, uB_s, Int.add_zero, Int.reduceAdd])
      refine v_iinc3 (n := 140) xB_155 dX11_turnsOver_137 rfl (by first | omega | (simp only [sA_same, sA_s, ud_s, Int.reduceEq, if_true, if_false, ite_true, ite_false, ↓reduceIte, and_true, true_and, eq_self, Int.add_zero, Int.reduceAdd]; omega)) rfl ?_
      refine v_goto (t := 44) xB_155 dX11_turnsOver_140 (by decide) rfl ?_
      refine v_iload_n (n := 45) xB_155 dX11_turnsOver_44 rfl rfl ?_
      refine v_iconst (n := 46) xB_155 dX11_turnsOver_45 ⟨by decide, by decide⟩ rfl ?_
      refine v_ic_ge_y (t := 143) xB_155 dX11_turnsOver_46 (by decide) rfl (by decide) ?_
      refine v_iinc1 (n := 146) xB_155 dX11_turnsOver_143 rfl (by first | omega | (simp only [sA_same, sA_s, ud_s, Int.reduceEq, if_true, if_false, ite_true, ite_false, ↓reduceIte, and_true, true_and, eq_self, Int.add_zero, Int.reduceAdd]; omega)) rfl ?_
      refine v_goto (t := 23) xB_155 dX11_turnsOver_146 (by decide) rfl ?_
      refine ih _ ?_ _ _ _ _
      (try simp (disch := omega) only [sA_same, sA_ne, sA_sA, sA_sr, sB_s, ud_eq, ud_ne, ud_ud, ud_sr, uB_s, Int.add_zero, Int.reduceAdd])
      exact sA2 (by funext j; simp only [ud_s, ivl, mir, sA_same, sA_s, Int.reduceEq, if_true, if_false, ↓reduceIte]; (repeat' split) <;> first | rfl | omega | (congr 1; omega) | (congr 2; omega)) (by funext j; simp only [ud_s, ivl, mir, sA_same, sA_s, Int.reduceEq, if_true, if_false, ↓reduceIte]; (repeat' split) <;> first | rfl | omega | (congr 1; omega) | (congr 2; omega))
    · rw [mir_0, mir_0]
  · intro k m' h1 h2 hm ih 
    show V d 155 (2, ([some (.inr (.inr 81)), some (.inl (k)), none, none, none, none], ([], (m', (none, (dy, L)))))) Q
    subst hm
    refine v_iload_n (n := 3) xB_155 dX11_turnsOver_2 rfl rfl ?_
    refine v_aload_n (n := 4) xB_155 dX11_turnsOver_3 rfl rfl ?_
    refine v_gf_i (n := 7) (kz := 22) xB_155 dX11_turnsOver_4 xO_155 fl_11_78 fg_11_22 rfl (sh_81 _ _ _) rfl rfl ?_
    refine v_ic_ge_n (n := 10) xB_155 dX11_turnsOver_7 (by decide) rfl (by first | omega | (simp only [sA_same, sA_s, ud_s, Int.reduceEq, if_true, if_false, ite_true, ite_false, ↓reduceIte, and_true, true_and, eq_self, Int.add_zero, Int.reduceAdd]; omega)) ?_
    refine v_aload_n (n := 11) xB_155 dX11_turnsOver_10 rfl rfl ?_
    refine v_iload_n (n := 12) xB_155 dX11_turnsOver_11 rfl rfl ?_
    refine v_call_v (n := 15) xB_155 dX11_turnsOver_12 xO_155 iv_11_303 rfl (sh_81 _ _ _) rfl rfl rfl ?_
    refine c_over (by omega) (by first | omega | (simp only [sA_same, sA_s, ud_s, Int.reduceEq, if_true, if_false, ite_true, ite_false, ↓reduceIte, and_true, true_and, eq_self, Int.add_zero, Int.reduceAdd]; omega)) (by simp (disch := omega) only [sA_same, sA_ne]; exact (bl_ivl (fun _ => hb _) hb _ _)) ?_
    (try simp (disch := omega) only [sA_same, sA_ne, sA_sA, sA_sr, sB_s, ud_eq, ud_ne, ud_ud, ud_sr, uB_s, Int.add_zero, Int.reduceAdd])
    refine v_iinc1 (n := 18) xB_155 dX11_turnsOver_15 rfl (by first | omega | (simp only [sA_same, sA_s, ud_s, Int.reduceEq, if_true, if_false, ite_true, ite_false, ↓reduceIte, and_true, true_and, eq_self, Int.add_zero, Int.reduceAdd]; omega)) rfl ?_
    refine v_goto (t := 2) xB_155 dX11_turnsOver_18 (by decide) rfl ?_
    refine ih _ ?_
    (try simp (disch := omega) only [sA_same, sA_ne, sA_sA, sA_sr, sB_s, ud_eq, ud_ne, ud_ud, ud_sr, uB_s, Int.add_zero, Int.reduceAdd])
    exact sA2 (by funext j; simp only [ud_s, ivl, mir, sA_same, sA_s, Int.reduceEq, if_true, if_false, ↓reduceIte]; (repeat' split) <;> first | rfl | omega | (congr 1; omega) | (congr 2; omega)) (by funext j; simp only [ud_s, ivl, mir, sA_same, sA_s, Int.reduceEq, if_true, if_false, ↓reduceIte]; (repeat' split) <;> first | rfl | omega | (congr 1; omega) | (congr 2; omega))
  · rw [ivl_0 (by omega), ivl_0 (by omega), sA_id, sA_id]
set_option maxHeartbeats 1000000 in
theorem v_abouts {d : Nat} {w : Int} {m : PM} {dy : List (Nat × Nat)} {L : Nat} {Q : Option PV → PS → Prop} (hd : 1 ≤ d) (hN : 0 ≤ m 81 22 ∧ m 81 22 ≤ 12) (hb : bl (m 99)) (hp : pgs (m 96)) (hw : 1 < w) (o1 : ∀ dn : Int → Int, bl dn → (∀ s, 0 ≤ s → s < m 81 22 → pkA (m 96) dn s = abt (pkA (m 96) (m 99) s)) → Q none (setA m 99 dn, (none, (dy, L)))) : V d 156 (13, ([some (.inr (.inr 81)), some (.inl w), some (.inl 0)], ([], (m, (none, (dy, L)))))) Q := by
  have bq : bl (fun j => 1 - m 99 j) := fun j => by have := hb j; dsimp only; omega
  refine lp_up (F := fun (k : Int) (m' : PM) => V d 156 (13, ([some (.inr (.inr 81)), some (.inl w), some (.inl (k))], ([], (m', (none, (dy, L)))))) Q) (E := fun (k : Int) (m' : PM) => m' = setA m 99 (ivl (fun j => 1 - m 99 j) (m 99) 0 (2 * k))) (a := 0) (b := m 81 22) ?_ ?_ (0) (_) (by first | omega | (simp only [sA_same, sA_s, ud_s, Int.reduceEq, if_true, if_false, ite_true, ite_false, ↓reduceIte, and_true, true_and, eq_self, Int.add_zero, Int.reduceAdd]; omega)) (by first | omega | (simp only [sA_same, sA_s, ud_s, Int.reduceEq, if_true, if_false, ite_true, ite_false, ↓reduceIte, and_true, true_and, eq_self, Int.add_zero, Int.reduceAdd]; omega)) ?_
  · intro m' hm 
    show V d 156 (13, ([some (.inr (.inr 81)), some (.inl w), some (.inl (m 81 22))], ([], (m', (none, (dy, L)))))) Q
    subst hm
    refine v_iload_n (n := 14) xB_156 dX11_goWay_13 rfl rfl ?_
    refine v_aload_n (n := 15) xB_156 dX11_goWay_14 rfl rfl ?_
    refine v_gf_i (n := 18) (kz := 22) xB_156 dX11_goWay_15 xO_156 fl_11_78 fg_11_22 rfl (sh_81 _ _ _) rfl rfl ?_
    refine v_ic_ge_y (t := 37) xB_156 dX11_goWay_18 (by decide) rfl (by first | omega | (simp only [sA_same, sA_s, ud_s, Int.reduceEq, if_true, if_false, ite_true, ite_false, ↓reduceIte, and_true, true_and, eq_self, Int.add_zero, Int.reduceAdd]; omega)) ?_
    refine v_return xB_156 dX11_goWay_37 xK_156 ?_
    refine o1 _ (bl_ivl bq hb _ _) ?_
    intro s h1 h2
    rw [pkA_s, pkA_s, abt_pk (hp _) (hb _) (hp _) (hb _)]
    simp (disch := omega) only [ivl_in]
  · intro k m' h1 h2 hm ih 
    show V d 156 (13, ([some (.inr (.inr 81)), some (.inl w), some (.inl (k))], ([], (m', (none, (dy, L)))))) Q
    subst hm
    refine v_iload_n (n := 14) xB_156 dX11_goWay_13 rfl rfl ?_
    refine v_aload_n (n := 15) xB_156 dX11_goWay_14 rfl rfl ?_
    refine v_gf_i (n := 18) (kz := 22) xB_156 dX11_goWay_15 xO_156 fl_11_78 fg_11_22 rfl (sh_81 _ _ _) rfl rfl ?_
    refine v_ic_ge_n (n := 21) xB_156 dX11_goWay_18 (by decide) rfl (by first | omega | (simp only [sA_same, sA_s, ud_s, Int.reduceEq, if_true, if_false, ite_true, ite_false, ↓reduceIte, and_true, true_and, eq_self, Int.add_zero, Int.reduceAdd]; omega)) ?_
    refine v_iload_n (n := 22) xB_156 dX11_goWay_21 rfl rfl ?_
    refine v_iconst (n := 23) xB_156 dX11_goWay_22 ⟨by decide, by decide⟩ rfl ?_
    refine v_ic_le_n (n := 26) xB_156 dX11_goWay_23 (by decide) rfl (by first | omega | (simp only [sA_same, sA_s, ud_s, Int.reduceEq, if_true, if_false, ite_true, ite_false, ↓reduceIte, and_true, true_and, eq_self, Int.add_zero, Int.reduceAdd]; omega)) ?_
    refine v_aload_n (n := 27) xB_156 dX11_goWay_26 rfl rfl ?_
    refine v_iload_n (n := 28) xB_156 dX11_goWay_27 rfl rfl ?_
    refine v_call_v (n := 31) xB_156 dX11_goWay_28 xO_156 iv_11_309 rfl (sh_81 _ _ _) rfl rfl rfl ?_
    refine c_about (by omega) (by first | omega | (simp only [sA_same, sA_s, ud_s, Int.reduceEq, if_true, if_false, ite_true, ite_false, ↓reduceIte, and_true, true_and, eq_self, Int.add_zero, Int.reduceAdd]; omega)) (by simp (disch := omega) only [sA_same, sA_ne]; exact bl_ivl bq hb _ _) ?_
    (try simp (disch := omega) only [sA_same, sA_ne, sA_sA, sA_sr, sB_s, ud_eq, ud_ne, ud_ud, ud_sr, uB_s, Int.add_zero, Int.reduceAdd])
    refine v_iinc2 (n := 34) xB_156 dX11_goWay_31 rfl (by first | omega | (simp only [sA_same, sA_s, ud_s, Int.reduceEq, if_true, if_false, ite_true, ite_false, ↓reduceIte, and_true, true_and, eq_self, Int.add_zero, Int.reduceAdd]; omega)) rfl ?_
    refine v_goto (t := 13) xB_156 dX11_goWay_34 (by decide) rfl ?_
    refine ih _ ?_
    (try simp (disch := omega) only [sA_same, sA_ne, sA_sA, sA_sr, sB_s, ud_eq, ud_ne, ud_ud, ud_sr, uB_s, Int.add_zero, Int.reduceAdd])
    congr 1
    exact (by funext j; simp only [ud_s, ivl, mir, sA_same, sA_s, Int.reduceEq, if_true, if_false, ↓reduceIte]; (repeat' split) <;> first | rfl | omega | (congr 1; omega) | (congr 2; omega))
  · rw [ivl_0 (by omega), sA_id]
theorem v_noabout {d : Nat} {w : Int} {m : PM} {dy : List (Nat × Nat)} {L : Nat} {Q : Option PV → PS → Prop} (hd : 1 ≤ d) (hN : 0 ≤ m 81 22 ∧ m 81 22 ≤ 12) (hw : w ≤ 1) (o1 : Q none (m, (none, (dy, L)))) : V d 156 (13, ([some (.inr (.inr 81)), some (.inl w), some (.inl 0)], ([], (m, (none, (dy, L)))))) Q := by
  refine v_iload_n (n := 14) xB_156 dX11_goWay_13 rfl rfl ?_
  refine v_aload_n (n := 15) xB_156 dX11_goWay_14 rfl rfl ?_
  refine v_gf_i (n := 18) (kz := 22) xB_156 dX11_goWay_15 xO_156 fl_11_78 fg_11_22 rfl (sh_81 _ _ _) rfl rfl ?_
  refine v_ic_ge (t := 37) (n := 21) xB_156 dX11_goWay_18 (by decide) rfl rfl (fun g1 => ?_) (fun g1 => ?_)
  · refine v_return xB_156 dX11_goWay_37 xK_156 ?_
    exact o1
  · refine v_iload_n (n := 22) xB_156 dX11_goWay_21 rfl rfl ?_
    refine v_iconst (n := 23) xB_156 dX11_goWay_22 ⟨by decide, by decide⟩ rfl ?_
    refine v_ic_le_y (t := 37) xB_156 dX11_goWay_23 (by decide) rfl (by first | omega | (simp only [sA_same, sA_s, ud_s, Int.reduceEq, if_true, if_false, ite_true, ite_false, ↓reduceIte, and_true, true_and, eq_self, Int.add_zero, Int.reduceAdd]; omega)) ?_
    refine v_return xB_156 dX11_goWay_37 xK_156 ?_
    exact o1
set_option maxHeartbeats 1000000 in
theorem c_goWay {d : Nat} {w : Int} {m : PM} {dy : List (Nat × Nat)} {L : Nat} {Q : Option PV → PS → Prop} (hd : 3 ≤ d) (hN : 0 ≤ m 81 22 ∧ m 81 22 ≤ 12) (hw : 0 ≤ w ∧ w ≤ 3) (hb : bl (m 99)) (hp : pgs (m 96)) (o1 : ∀ sd dn : Int → Int, bl dn → pgs sd → (∀ s, 0 ≤ s → s < m 81 22 → pkA sd dn s = wyF w (m 81 22) (pkA (m 96) (m 99)) s) → Q none (setA (setA m 96 (sd)) 99 (dn), (none, (dy, L)))) : C d 156 [.inr (.inr 81), .inl w] (m, (none, (dy, L))) Q := by
  refine C_go (k := 2) hd xL_156 (fun d hd => ?_)
  show V d 156 (0, ([some (.inr (.inr 81)), some (.inl w), none], ([], (m, (none, (dy, L)))))) Q
  refine v_iload_n (n := 1) xB_156 dX11_goWay_0 rfl rfl ?_
  refine v_iconst (n := 2) xB_156 dX11_goWay_1 ⟨by decide, by decide⟩ rfl ?_
  refine v_irem (n := 3) xB_156 dX11_goWay_2 (by first | omega | (simp only [sA_same, sA_s, ud_s, Int.reduceEq, if_true, if_false, ite_true, ite_false, ↓reduceIte, and_true, true_and, eq_self, Int.add_zero, Int.reduceAdd]; omega)) rfl ?_
  refine v_iconst (n := 4) xB_156 dX11_goWay_3 ⟨by decide, by decide⟩ rfl ?_
  refine v_ic_ne (t := 11) (n := 7) xB_156 dX11_goWay_4 (by decide) rfl rfl (fun g1 => ?_) (fun g1 => ?_)
  · refine v_iconst (n := 12) xB_156 dX11_goWay_11 ⟨by decide, by decide⟩ rfl ?_
    refine v_istore_n2 (n := 13) xB_156 dX11_goWay_12 rfl rfl ?_
    by_cases hw1 : 1 < w
    · refine v_abouts (by omega) (by first | omega | (simp only [sA_same, sA_s, ud_s, Int.reduceEq, if_true, if_false, ite_true, ite_false, ↓reduceIte, and_true, true_and, eq_self, Int.add_zero, Int.reduceAdd]; omega)) (by first | assumption | (simp only [sA_same, sA_s, ud_s, Int.reduceEq, if_true, if_false, ite_true, ite_false, ↓reduceIte, and_true, true_and, eq_self, Int.add_zero, Int.reduceAdd]; assumption)) (by first | assumption | (simp only [sA_same, sA_s, ud_s, Int.reduceEq, if_true, if_false, ite_true, ite_false, ↓reduceIte, and_true, true_and, eq_self, Int.add_zero, Int.reduceAdd]; assumption)) hw1 (fun dn2 hb2 h2 => ?_)
      have q := o1 (m 96) _ hb2 hp (fun s h3 h4 => by rw [h2 s h3 h4]; unfold wyF; rw [if_pos hw1, if_neg (by omega)])
      rw [sA_id] at q
      exact q
    · refine v_noabout (by omega) (by first | omega | (simp only [sA_same, sA_s, ud_s, Int.reduceEq, if_true, if_false, ite_true, ite_false, ↓reduceIte, and_true, true_and, eq_self, Int.add_zero, Int.reduceAdd]; omega)) (by omega) ?_
      have q := o1 (m 96) (m 99) hb hp (fun s h3 h4 => by unfold wyF; rw [if_neg hw1, if_neg (by omega)])
      rw [sA_id, sA_id] at q
      exact q
  · refine v_aload_n (n := 8) xB_156 dX11_goWay_7 rfl rfl ?_
    refine v_call_v (n := 11) xB_156 dX11_goWay_8 xO_156 iv_11_306 rfl (sh_81 _ _ _) rfl rfl rfl ?_
    refine c_turnsOver (by omega) (by first | omega | (simp only [sA_same, sA_s, ud_s, Int.reduceEq, if_true, if_false, ite_true, ite_false, ↓reduceIte, and_true, true_and, eq_self, Int.add_zero, Int.reduceAdd]; omega)) (by first | assumption | (simp only [sA_same, sA_s, ud_s, Int.reduceEq, if_true, if_false, ite_true, ite_false, ↓reduceIte, and_true, true_and, eq_self, Int.add_zero, Int.reduceAdd]; assumption)) (by first | assumption | (simp only [sA_same, sA_s, ud_s, Int.reduceEq, if_true, if_false, ite_true, ite_false, ↓reduceIte, and_true, true_and, eq_self, Int.add_zero, Int.reduceAdd]; assumption)) (fun sd dn hdn hsd hpk => ?_)
    refine v_iconst (n := 12) xB_156 dX11_goWay_11 ⟨by decide, by decide⟩ rfl ?_
    refine v_istore_n2 (n := 13) xB_156 dX11_goWay_12 rfl rfl ?_
    by_cases hw1 : 1 < w
    · refine v_abouts (by omega) (by first | omega | (simp only [sA_same, sA_s, ud_s, Int.reduceEq, if_true, if_false, ite_true, ite_false, ↓reduceIte, and_true, true_and, eq_self, Int.add_zero, Int.reduceAdd]; omega)) (by first | assumption | (simp only [sA_same, sA_s, ud_s, Int.reduceEq, if_true, if_false, ite_true, ite_false, ↓reduceIte, and_true, true_and, eq_self, Int.add_zero, Int.reduceAdd]; assumption)) (by first | assumption | (simp only [sA_same, sA_s, ud_s, Int.reduceEq, if_true, if_false, ite_true, ite_false, ↓reduceIte, and_true, true_and, eq_self, Int.add_zero, Int.reduceAdd]; assumption)) hw1 (fun dn2 hb2 h2 => ?_)
      simp (disch := omega) only [sA_same, sA_ne, sA_sA, sA_sr, sB_s, ud_eq, ud_ne, ud_ud, ud_sr, uB_s, Int.add_zero, Int.reduceAdd] at h2 ⊢
      refine o1 sd _ hb2 hsd (fun s h3 h4 => ?_)
      rw [h2 s h3 h4, hpk s h3 h4]
      unfold wyF
      rw [if_pos hw1, if_pos (by omega)]
    · refine v_noabout (by omega) (by first | omega | (simp only [sA_same, sA_s, ud_s, Int.reduceEq, if_true, if_false, ite_true, ite_false, ↓reduceIte, and_true, true_and, eq_self, Int.add_zero, Int.reduceAdd]; omega)) (by omega) ?_
      refine o1 sd dn hdn hsd (fun s h3 h4 => ?_)
      rw [hpk s h3 h4]
      unfold wyF
      rw [if_neg hw1, if_pos (by omega)]
