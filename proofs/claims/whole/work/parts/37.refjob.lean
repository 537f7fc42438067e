/-! The reference: what a job asks of a page. -/
def LA (f : Int → Int) : Int → List Int → Prop
  | _, [] => True
  | k, z :: U => f k = z ∧ LA f (k + 1) U
def trS (z : Int) : Int := if z = -1 then -33 else if z = -2 then -38 else if z = -3 then -124 else z % 100 + 100 * (z / 100 % 3) + 1000 * (z / 300)
def b2i (b : Bool) : Int := if b = true then 1 else 0
def SBs (f : Int → Int) : Int → List Bool → Prop
  | n, [] => n = 0
  | n, b :: st => f (n - 1) = b2i b ∧ SBs f (n - 1) st
theorem SBs_len {f : Int → Int} : ∀ (st : List Bool) (n : Int), SBs f n st → n = st.length := by
  intro st
  induction st with
  | nil => intro n h; exact h
  | cons b st ih => intro n h; have := ih _ h.2; rw [List.length_cons]; omega
theorem SBs_ud {f : Int → Int} {k z : Int} : ∀ (st : List Bool) (n : Int), n ≤ k → SBs f n st → SBs (ud f k z) n st := by
  intro st
  induction st with
  | nil => intro n _ h; exact h
  | cons b st ih => intro n hk h; exact ⟨by rw [ud_ne (by omega)]; exact h.1, ih _ (by omega) h.2⟩
theorem b2i_t {P : Prop} [Decidable P] (h : P) : (1 : Int) = b2i (decide P) := by unfold b2i; rw [if_pos (decide_eq_true h)]
theorem b2i_f {P : Prop} [Decidable P] (h : ¬ P) : (0 : Int) = b2i (decide P) := by unfold b2i; rw [decide_eq_false h]; rfl
theorem ev1_0 {z p k v n : Int} (h : z / 100 % 3 = 0) : ev1 z p k v n = decide (vl (z / 300) p k v n < z % 100) := by unfold ev1; rw [if_pos h]
theorem ev1_1 {z p k v n : Int} (h : z / 100 % 3 = 1) : ev1 z p k v n = decide (vl (z / 300) p k v n = z % 100) := by unfold ev1; rw [if_neg (by omega), if_pos h]
theorem ev1_2 {z p k v n : Int} (h : z / 100 % 3 = 2) : ev1 z p k v n = decide (z % 100 < vl (z / 300) p k v n) := by unfold ev1; rw [if_neg (by omega), if_neg (by omega)]
def RCs (m : PM) (c : Int) (S : List Int) : Prop := 0 ≤ m 90 c ∧ m 91 c = m 90 c + S.length ∧ m 91 c ≤ 600 ∧ LA (m 92) (m 90 c) (S.map trS)
theorem tr_t {z : Int} (h0 : 0 ≤ z) (h1 : z < 1800) : trS z = z % 100 + 100 * (z / 100 % 3) + 1000 * (z / 300) := by
  unfold trS; rw [if_neg (by omega), if_neg (by omega), if_neg (by omega)]
set_option maxHeartbeats 2000000 in
theorem v_holds {d : Nat} {t c pg tk : Int} {m : PM} {dy : List (Nat × Nat)} {L : Nat} {Q : Option PV → PS → Prop} (hd : 1 ≤ d) (ht : 0 ≤ t ∧ t < 5) (hpg : 0 ≤ pg) (hc : 0 ≤ c ∧ c < 60) (hto : m 91 c ≤ 600) (b : Bool) (o1 : ∀ f : Int → Int, b = true → Q (some (.inl 1)) (setA m 95 f, (none, (dy, L)))) (o2 : ∀ f : Int → Int, b = false → Q (some (.inl 0)) (setA m 95 f, (none, (dy, L)))) : ∀ (U : List Int) (st : List Bool) (f : Int → Int) (n k : Int) (x7 x8 x9 : Option PV), LA (m 92) k (U.map trS) → k + U.length = m 91 c → 0 ≤ k → hg 31 U st.length → st.length ≤ 31 → SBs f n st → evS pg (m 82 t) (m 83 t) tk U st = [b] → V d 148 (11, ([some (.inr (.inr 81)), some (.inl c), some (.inl pg), some (.inl t), some (.inl tk), some (.inl n), some (.inl k), x7, x8, x9], ([], (setA m 95 (f), (none, (dy, L)))))) Q := by
  intro U
  induction U with
  | nil =>
    intro st f n k x7 x8 x9 hLA hk h0 hh hst hS he
    have he2 : st = [b] := he
    subst he2
    have hn : n = 1 := by have := SBs_len _ _ hS; simpa using this
    subst hn
    have hf : f 0 = b2i b := hS.1
    have hf2 : f 0 = 0 ∨ f 0 = 1 := by rw [hf]; unfold b2i; cases b <;> simp
    rw [List.length_nil] at hk
    refine v_iload (n := 13) xB_148 dX11_holds_11 rfl rfl ?_
    refine v_aload_n (n := 14) xB_148 dX11_holds_13 rfl rfl ?_
    refine v_gf_s (n := 17) (kz := 14) xB_148 dX11_holds_14 xO_148 fl_11_53 fg_11_14 (sh_81 _ _ _) rfl st_81_14 rfl ?_
    refine v_iload_n (n := 18) xB_148 dX11_holds_17 rfl rfl ?_
    refine v_iaload (n := 19) (lz := 60) xB_148 dX11_holds_18 (sh_91 _ _ _) rfl (by first | omega | (simp only [sA_same, sA_s, ud_s, Int.reduceEq, if_true, if_false, ite_true, ite_false, ↓reduceIte, and_true, true_and, eq_self, Int.add_zero, Int.reduceAdd]; omega)) rfl ?_
    refine v_ic_ge_y (t := 255) xB_148 dX11_holds_19 (by decide) rfl (by first | omega | (simp only [sA_same, sA_s, ud_s, Int.reduceEq, if_true, if_false, ite_true, ite_false, ↓reduceIte, and_true, true_and, eq_self, Int.add_zero, Int.reduceAdd]; omega)) ?_
    refine v_aload_n (n := 256) xB_148 dX11_holds_255 rfl rfl ?_
    refine v_gf_s (n := 259) (kz := 21) xB_148 dX11_holds_256 xO_148 fl_11_74 fg_11_21 (sh_81 _ _ _) rfl st_81_21 rfl ?_
    refine v_iconst (n := 260) xB_148 dX11_holds_259 ⟨by decide, by decide⟩ rfl ?_
    refine v_baload (n := 261) (lz := 100) xB_148 dX11_holds_260 (sh_95 _ _ _) rfl (by first | omega | (simp only [sA_same, sA_s, ud_s, Int.reduceEq, if_true, if_false, ite_true, ite_false, ↓reduceIte, and_true, true_and, eq_self, Int.add_zero, Int.reduceAdd]; omega)) rfl ?_
    refine v_ireturn1 xB_148 dX11_holds_261 xK_148 (by first | omega | (simp only [sA_same, sA_s, ud_s, Int.reduceEq, if_true, if_false, ite_true, ite_false, ↓reduceIte, and_true, true_and, eq_self, Int.add_zero, Int.reduceAdd]; omega)) ?_
    simp only [sA_same]
    rw [hf]
    cases b
    · exact o2 _ rfl
    · exact o1 _ rfl
  | cons z U ih =>
    intro st f n k x7 x8 x9 hLA hk h0 hh hst hS he
    have hz : m 92 k = trS z := hLA.1
    have hLA2 := hLA.2
    have hn := SBs_len _ _ hS
    rw [List.length_cons] at hk
    by_cases e1 : z = -1
    · subst e1
      have hz2 : m 92 k = -33 := hz
      unfold hg at hh
      rw [if_pos rfl] at hh
      cases st with
      | nil => exact absurd hh.1 (by simp)
      | cons y r =>
        have hS1 := hS.1
        rw [List.length_cons] at hn
        rw [List.length_cons] at hst
        refine v_iload (n := 13) xB_148 dX11_holds_11 rfl rfl ?_
        refine v_aload_n (n := 14) xB_148 dX11_holds_13 rfl rfl ?_
        refine v_gf_s (n := 17) (kz := 14) xB_148 dX11_holds_14 xO_148 fl_11_53 fg_11_14 (sh_81 _ _ _) rfl st_81_14 rfl ?_
        refine v_iload_n (n := 18) xB_148 dX11_holds_17 rfl rfl ?_
        refine v_iaload (n := 19) (lz := 60) xB_148 dX11_holds_18 (sh_91 _ _ _) rfl (by first | omega | (simp only [sA_same, sA_s, ud_s, Int.reduceEq, if_true, if_false, ite_true, ite_false, ↓reduceIte, and_true, true_and, eq_self, Int.add_zero, Int.reduceAdd]; omega)) rfl ?_
        refine v_ic_ge_n (n := 22) xB_148 dX11_holds_19 (by decide) rfl (by first | omega | (simp only [sA_same, sA_s, ud_s, Int.reduceEq, if_true, if_false, ite_true, ite_false, ↓reduceIte, and_true, true_and, eq_self, Int.add_zero, Int.reduceAdd]; omega)) ?_
        refine v_aload_n (n := 23) xB_148 dX11_holds_22 rfl rfl ?_
        refine v_gf_s (n := 26) (kz := 15) xB_148 dX11_holds_23 xO_148 fl_11_56 fg_11_15 (sh_81 _ _ _) rfl st_81_15 rfl ?_
        refine v_iload (n := 28) xB_148 dX11_holds_26 rfl rfl ?_
        refine v_iaload (n := 29) (lz := 600) xB_148 dX11_holds_28 (sh_92 _ _ _) rfl (by first | omega | (simp only [sA_same, sA_s, ud_s, Int.reduceEq, if_true, if_false, ite_true, ite_false, ↓reduceIte, and_true, true_and, eq_self, Int.add_zero, Int.reduceAdd]; omega)) rfl ?_
        refine v_istore7 (n := 31) xB_148 dX11_holds_29 rfl rfl ?_
        refine v_iload (n := 33) xB_148 dX11_holds_31 rfl rfl ?_
        refine v_bipush (n := 35) xB_148 dX11_holds_33 ⟨by decide, by decide⟩ rfl ?_
        refine v_ic_ne_n (n := 38) xB_148 dX11_holds_35 (by decide) rfl (by first | omega | (simp only [sA_same, sA_s, ud_s, Int.reduceEq, if_true, if_false, ite_true, ite_false, ↓reduceIte, and_true, true_and, eq_self, Int.add_zero, Int.reduceAdd]; omega)) ?_
        refine v_aload_n (n := 39) xB_148 dX11_holds_38 rfl rfl ?_
        refine v_gf_s (n := 42) (kz := 21) xB_148 dX11_holds_39 xO_148 fl_11_74 fg_11_21 (sh_81 _ _ _) rfl st_81_21 rfl ?_
        refine v_iload (n := 44) xB_148 dX11_holds_42 rfl rfl ?_
        refine v_iconst (n := 45) xB_148 dX11_holds_44 ⟨by decide, by decide⟩ rfl ?_
        refine v_isub (n := 46) xB_148 dX11_holds_45 (by first | omega | (simp only [sA_same, sA_s, ud_s, Int.reduceEq, if_true, if_false, ite_true, ite_false, ↓reduceIte, and_true, true_and, eq_self, Int.add_zero, Int.reduceAdd]; omega)) rfl ?_
        refine v_aload_n (n := 47) xB_148 dX11_holds_46 rfl rfl ?_
        refine v_gf_s (n := 50) (kz := 21) xB_148 dX11_holds_47 xO_148 fl_11_74 fg_11_21 (sh_81 _ _ _) rfl st_81_21 rfl ?_
        refine v_iload (n := 52) xB_148 dX11_holds_50 rfl rfl ?_
        refine v_iconst (n := 53) xB_148 dX11_holds_52 ⟨by decide, by decide⟩ rfl ?_
        refine v_isub (n := 54) xB_148 dX11_holds_53 (by first | omega | (simp only [sA_same, sA_s, ud_s, Int.reduceEq, if_true, if_false, ite_true, ite_false, ↓reduceIte, and_true, true_and, eq_self, Int.add_zero, Int.reduceAdd]; omega)) rfl ?_
        refine v_baload (n := 55) (lz := 100) xB_148 dX11_holds_54 (sh_95 _ _ _) rfl (by first | omega | (simp only [sA_same, sA_s, ud_s, Int.reduceEq, if_true, if_false, ite_true, ite_false, ↓reduceIte, and_true, true_and, eq_self, Int.add_zero, Int.reduceAdd]; omega)) rfl ?_
        refine v_if_ne (t := 62) (n := 58) xB_148 dX11_holds_55 (by decide) rfl rfl (fun g1 => ?_) (fun g1 => ?_)
        · (try simp (disch := omega) only [sA_same, sA_ne, sA_sA, sA_sr, sB_s, ud_eq, ud_ne, ud_ud, ud_sr, uB_s, Int.add_zero, Int.reduceAdd] at g1)
          refine v_iconst (n := 63) xB_148 dX11_holds_62 ⟨by decide, by decide⟩ rfl ?_
          refine v_bastore01 (n := 64) (lz := 100) xB_148 dX11_holds_63 (sh_95 _ _ _) (by decide) rfl (by first | omega | (simp only [sA_same, sA_s, ud_s, Int.reduceEq, if_true, if_false, ite_true, ite_false, ↓reduceIte, and_true, true_and, eq_self, Int.add_zero, Int.reduceAdd]; omega)) (by decide) rfl ?_
          (try simp (disch := omega) only [sA_same, sA_ne, sA_sA, sA_sr, sB_s, ud_eq, ud_ne, ud_ud, ud_sr, uB_s, Int.add_zero, Int.reduceAdd])
          refine v_goto (t := 249) xB_148 dX11_holds_64 (by decide) rfl ?_
          refine v_iinc6 (n := 252) xB_148 dX11_holds_249 rfl (by first | omega | (simp only [sA_same, sA_s, ud_s, Int.reduceEq, if_true, if_false, ite_true, ite_false, ↓reduceIte, and_true, true_and, eq_self, Int.add_zero, Int.reduceAdd]; omega)) rfl ?_
          refine v_goto (t := 11) xB_148 dX11_holds_252 (by decide) rfl ?_
          refine ih ((!y) :: r) _ _ _ _ _ _ hLA2 (by omega) (by omega) hh.2 (by simp only [List.length_cons]; omega) ⟨(by rw [ud_eq]; revert hS1; unfold b2i; cases y <;> intro hS1 <;> first | rfl | (exfalso; simp only [if_true, Bool.false_eq_true, if_false] at hS1; omega)), SBs_ud _ _ (by omega) hS.2⟩ he
        · (try simp (disch := omega) only [sA_same, sA_ne, sA_sA, sA_sr, sB_s, ud_eq, ud_ne, ud_ud, ud_sr, uB_s, Int.add_zero, Int.reduceAdd] at g1)
          refine v_iconst (n := 59) xB_148 dX11_holds_58 ⟨by decide, by decide⟩ rfl ?_
          refine v_goto (t := 63) xB_148 dX11_holds_59 (by decide) rfl ?_
          refine v_bastore01 (n := 64) (lz := 100) xB_148 dX11_holds_63 (sh_95 _ _ _) (by decide) rfl (by first | omega | (simp only [sA_same, sA_s, ud_s, Int.reduceEq, if_true, if_false, ite_true, ite_false, ↓reduceIte, and_true, true_and, eq_self, Int.add_zero, Int.reduceAdd]; omega)) (by decide) rfl ?_
          (try simp (disch := omega) only [sA_same, sA_ne, sA_sA, sA_sr, sB_s, ud_eq, ud_ne, ud_ud, ud_sr, uB_s, Int.add_zero, Int.reduceAdd])
          refine v_goto (t := 249) xB_148 dX11_holds_64 (by decide) rfl ?_
          refine v_iinc6 (n := 252) xB_148 dX11_holds_249 rfl (by first | omega | (simp only [sA_same, sA_s, ud_s, Int.reduceEq, if_true, if_false, ite_true, ite_false, ↓reduceIte, and_true, true_and, eq_self, Int.add_zero, Int.reduceAdd]; omega)) rfl ?_
          refine v_goto (t := 11) xB_148 dX11_holds_252 (by decide) rfl ?_
          refine ih ((!y) :: r) _ _ _ _ _ _ hLA2 (by omega) (by omega) hh.2 (by simp only [List.length_cons]; omega) ⟨(by rw [ud_eq]; revert hS1; unfold b2i; cases y <;> intro hS1 <;> first | rfl | (exfalso; simp only [if_true, Bool.false_eq_true, if_false] at hS1; omega)), SBs_ud _ _ (by omega) hS.2⟩ he
    · by_cases e2 : z = -2 ∨ z = -3
      · unfold hg at hh
        rw [if_neg e1, if_pos e2] at hh
        cases st with
        | nil => exact absurd hh.1 (by simp)
        | cons y r =>
          cases r with
          | nil => exact absurd hh.1 (by simp)
          | cons x r =>
            have hS1 : f (n + -1) = b2i y := by rw [show n + -1 = n - 1 by omega]; exact hS.1
            have hS2 : f (n + -1 - 1) = b2i x := by rw [show n + -1 - 1 = n - 1 - 1 by omega]; exact hS.2.1
            rw [List.length_cons, List.length_cons] at hn
            rw [List.length_cons, List.length_cons] at hst
            rcases e2 with e2 | e2
            · subst e2
              have hz2 : m 92 k = -38 := hz
              refine v_iload (n := 13) xB_148 dX11_holds_11 rfl rfl ?_
              refine v_aload_n (n := 14) xB_148 dX11_holds_13 rfl rfl ?_
              refine v_gf_s (n := 17) (kz := 14) xB_148 dX11_holds_14 xO_148 fl_11_53 fg_11_14 (sh_81 _ _ _) rfl st_81_14 rfl ?_
              refine v_iload_n (n := 18) xB_148 dX11_holds_17 rfl rfl ?_
              refine v_iaload (n := 19) (lz := 60) xB_148 dX11_holds_18 (sh_91 _ _ _) rfl (by first | omega | (simp only [sA_same, sA_s, ud_s, Int.reduceEq, if_true, if_false, ite_true, ite_false, ↓reduceIte, and_true, true_and, eq_self, Int.add_zero, Int.reduceAdd]; omega)) rfl ?_
              refine v_ic_ge_n (n := 22) xB_148 dX11_holds_19 (by decide) rfl (by first | omega | (simp only [sA_same, sA_s, ud_s, Int.reduceEq, if_true, if_false, ite_true, ite_false, ↓reduceIte, and_true, true_and, eq_self, Int.add_zero, Int.reduceAdd]; omega)) ?_
              refine v_aload_n (n := 23) xB_148 dX11_holds_22 rfl rfl ?_
              refine v_gf_s (n := 26) (kz := 15) xB_148 dX11_holds_23 xO_148 fl_11_56 fg_11_15 (sh_81 _ _ _) rfl st_81_15 rfl ?_
              refine v_iload (n := 28) xB_148 dX11_holds_26 rfl rfl ?_
              refine v_iaload (n := 29) (lz := 600) xB_148 dX11_holds_28 (sh_92 _ _ _) rfl (by first | omega | (simp only [sA_same, sA_s, ud_s, Int.reduceEq, if_true, if_false, ite_true, ite_false, ↓reduceIte, and_true, true_and, eq_self, Int.add_zero, Int.reduceAdd]; omega)) rfl ?_
              refine v_istore7 (n := 31) xB_148 dX11_holds_29 rfl rfl ?_
              refine v_iload (n := 33) xB_148 dX11_holds_31 rfl rfl ?_
              refine v_bipush (n := 35) xB_148 dX11_holds_33 ⟨by decide, by decide⟩ rfl ?_
              refine v_ic_ne_y (t := 67) xB_148 dX11_holds_35 (by decide) rfl (by first | omega | (simp only [sA_same, sA_s, ud_s, Int.reduceEq, if_true, if_false, ite_true, ite_false, ↓reduceIte, and_true, true_and, eq_self, Int.add_zero, Int.reduceAdd]; omega)) ?_
              refine v_iload (n := 69) xB_148 dX11_holds_67 rfl rfl ?_
              refine v_if_ge_n (n := 72) xB_148 dX11_holds_69 (by decide) rfl (by first | omega | (simp only [sA_same, sA_s, ud_s, Int.reduceEq, if_true, if_false, ite_true, ite_false, ↓reduceIte, and_true, true_and, eq_self, Int.add_zero, Int.reduceAdd]; omega)) ?_
              refine v_iinc5 (n := 75) xB_148 dX11_holds_72 rfl (by first | omega | (simp only [sA_same, sA_s, ud_s, Int.reduceEq, if_true, if_false, ite_true, ite_false, ↓reduceIte, and_true, true_and, eq_self, Int.add_zero, Int.reduceAdd]; omega)) rfl ?_
              refine v_aload_n (n := 76) xB_148 dX11_holds_75 rfl rfl ?_
              refine v_gf_s (n := 79) (kz := 21) xB_148 dX11_holds_76 xO_148 fl_11_74 fg_11_21 (sh_81 _ _ _) rfl st_81_21 rfl ?_
              refine v_iload (n := 81) xB_148 dX11_holds_79 rfl rfl ?_
              refine v_iconst (n := 82) xB_148 dX11_holds_81 ⟨by decide, by decide⟩ rfl ?_
              refine v_isub (n := 83) xB_148 dX11_holds_82 (by first | omega | (simp only [sA_same, sA_s, ud_s, Int.reduceEq, if_true, if_false, ite_true, ite_false, ↓reduceIte, and_true, true_and, eq_self, Int.add_zero, Int.reduceAdd]; omega)) rfl ?_
              refine v_iload (n := 85) xB_148 dX11_holds_83 rfl rfl ?_
              refine v_bipush (n := 87) xB_148 dX11_holds_85 ⟨by decide, by decide⟩ rfl ?_
              refine v_ic_ne_n (n := 90) xB_148 dX11_holds_87 (by decide) rfl (by first | omega | (simp only [sA_same, sA_s, ud_s, Int.reduceEq, if_true, if_false, ite_true, ite_false, ↓reduceIte, and_true, true_and, eq_self, Int.add_zero, Int.reduceAdd]; omega)) ?_
              refine v_aload_n (n := 91) xB_148 dX11_holds_90 rfl rfl ?_
              refine v_gf_s (n := 94) (kz := 21) xB_148 dX11_holds_91 xO_148 fl_11_74 fg_11_21 (sh_81 _ _ _) rfl st_81_21 rfl ?_
              refine v_iload (n := 96) xB_148 dX11_holds_94 rfl rfl ?_
              refine v_iconst (n := 97) xB_148 dX11_holds_96 ⟨by decide, by decide⟩ rfl ?_
              refine v_isub (n := 98) xB_148 dX11_holds_97 (by first | omega | (simp only [sA_same, sA_s, ud_s, Int.reduceEq, if_true, if_false, ite_true, ite_false, ↓reduceIte, and_true, true_and, eq_self, Int.add_zero, Int.reduceAdd]; omega)) rfl ?_
              refine v_baload (n := 99) (lz := 100) xB_148 dX11_holds_98 (sh_95 _ _ _) rfl (by first | omega | (simp only [sA_same, sA_s, ud_s, Int.reduceEq, if_true, if_false, ite_true, ite_false, ↓reduceIte, and_true, true_and, eq_self, Int.add_zero, Int.reduceAdd]; omega)) rfl ?_
              refine v_if_eq (t := 116) (n := 102) xB_148 dX11_holds_99 (by decide) rfl rfl (fun g1 => ?_) (fun g1 => ?_)
              · (try simp (disch := omega) only [sA_same, sA_ne, sA_sA, sA_sr, sB_s, ud_eq, ud_ne, ud_ud, ud_sr, uB_s, Int.add_zero, Int.reduceAdd] at g1)
                refine v_iconst (n := 117) xB_148 dX11_holds_116 ⟨by decide, by decide⟩ rfl ?_
                refine v_goto (t := 147) xB_148 dX11_holds_117 (by decide) rfl ?_
                refine v_bastore01 (n := 148) (lz := 100) xB_148 dX11_holds_147 (sh_95 _ _ _) (by decide) rfl (by first | omega | (simp only [sA_same, sA_s, ud_s, Int.reduceEq, if_true, if_false, ite_true, ite_false, ↓reduceIte, and_true, true_and, eq_self, Int.add_zero, Int.reduceAdd]; omega)) (by decide) rfl ?_
                (try simp (disch := omega) only [sA_same, sA_ne, sA_sA, sA_sr, sB_s, ud_eq, ud_ne, ud_ud, ud_sr, uB_s, Int.add_zero, Int.reduceAdd])
                refine v_goto (t := 249) xB_148 dX11_holds_148 (by decide) rfl ?_
                refine v_iinc6 (n := 252) xB_148 dX11_holds_249 rfl (by first | omega | (simp only [sA_same, sA_s, ud_s, Int.reduceEq, if_true, if_false, ite_true, ite_false, ↓reduceIte, and_true, true_and, eq_self, Int.add_zero, Int.reduceAdd]; omega)) rfl ?_
                refine v_goto (t := 11) xB_148 dX11_holds_252 (by decide) rfl ?_
                refine ih ((x && y) :: r) _ _ _ _ _ _ hLA2 (by omega) (by omega) hh.2 (by simp only [List.length_cons]; omega) ⟨(by rw [ud_eq]; revert hS1 hS2; unfold b2i; cases y <;> cases x <;> intro hS1 hS2 <;> first | rfl | (exfalso; simp only [if_true, Bool.false_eq_true, if_false] at hS1 hS2; omega)), SBs_ud _ _ (by omega) (by rw [show n + -1 - 1 = n - 1 - 1 by omega]; exact hS.2.2)⟩ he
              · (try simp (disch := omega) only [sA_same, sA_ne, sA_sA, sA_sr, sB_s, ud_eq, ud_ne, ud_ud, ud_sr, uB_s, Int.add_zero, Int.reduceAdd] at g1)
                refine v_aload_n (n := 103) xB_148 dX11_holds_102 rfl rfl ?_
                refine v_gf_s (n := 106) (kz := 21) xB_148 dX11_holds_103 xO_148 fl_11_74 fg_11_21 (sh_81 _ _ _) rfl st_81_21 rfl ?_
                refine v_iload (n := 108) xB_148 dX11_holds_106 rfl rfl ?_
                refine v_baload (n := 109) (lz := 100) xB_148 dX11_holds_108 (sh_95 _ _ _) rfl (by first | omega | (simp only [sA_same, sA_s, ud_s, Int.reduceEq, if_true, if_false, ite_true, ite_false, ↓reduceIte, and_true, true_and, eq_self, Int.add_zero, Int.reduceAdd]; omega)) rfl ?_
                refine v_if_eq (t := 116) (n := 112) xB_148 dX11_holds_109 (by decide) rfl rfl (fun g2 => ?_) (fun g2 => ?_)
                · (try simp (disch := omega) only [sA_same, sA_ne, sA_sA, sA_sr, sB_s, ud_eq, ud_ne, ud_ud, ud_sr, uB_s, Int.add_zero, Int.reduceAdd] at g2)
                  refine v_iconst (n := 117) xB_148 dX11_holds_116 ⟨by decide, by decide⟩ rfl ?_
                  refine v_goto (t := 147) xB_148 dX11_holds_117 (by decide) rfl ?_
                  refine v_bastore01 (n := 148) (lz := 100) xB_148 dX11_holds_147 (sh_95 _ _ _) (by decide) rfl (by first | omega | (simp only [sA_same, sA_s, ud_s, Int.reduceEq, if_true, if_false, ite_true, ite_false, ↓reduceIte, and_true, true_and, eq_self, Int.add_zero, Int.reduceAdd]; omega)) (by decide) rfl ?_
                  (try simp (disch := omega) only [sA_same, sA_ne, sA_sA, sA_sr, sB_s, ud_eq, ud_ne, ud_ud, ud_sr, uB_s, Int.add_zero, Int.reduceAdd])
                  refine v_goto (t := 249) xB_148 dX11_holds_148 (by decide) rfl ?_
                  refine v_iinc6 (n := 252) xB_148 dX11_holds_249 rfl (by first | omega | (simp only [sA_same, sA_s, ud_s, Int.reduceEq, if_true, if_false, ite_true, ite_false, ↓reduceIte, and_true, true_and, eq_self, Int.add_zero, Int.reduceAdd]; omega)) rfl ?_
                  refine v_goto (t := 11) xB_148 dX11_holds_252 (by decide) rfl ?_
                  refine ih ((x && y) :: r) _ _ _ _ _ _ hLA2 (by omega) (by omega) hh.2 (by simp only [List.length_cons]; omega) ⟨(by rw [ud_eq]; revert hS1 hS2; unfold b2i; cases y <;> cases x <;> intro hS1 hS2 <;> first | rfl | (exfalso; simp only [if_true, Bool.false_eq_true, if_false] at hS1 hS2; omega)), SBs_ud _ _ (by omega) (by rw [show n + -1 - 1 = n - 1 - 1 by omega]; exact hS.2.2)⟩ he
                · (try simp (disch := omega) only [sA_same, sA_ne, sA_sA, sA_sr, sB_s, ud_eq, ud_ne, ud_ud, ud_sr, uB_s, Int.add_zero, Int.reduceAdd] at g2)
                  refine v_iconst (n := 113) xB_148 dX11_holds_112 ⟨by decide, by decide⟩ rfl ?_
                  refine v_goto (t := 147) xB_148 dX11_holds_113 (by decide) rfl ?_
                  refine v_bastore01 (n := 148) (lz := 100) xB_148 dX11_holds_147 (sh_95 _ _ _) (by decide) rfl (by first | omega | (simp only [sA_same, sA_s, ud_s, Int.reduceEq, if_true, if_false, ite_true, ite_false, ↓reduceIte, and_true, true_and, eq_self, Int.add_zero, Int.reduceAdd]; omega)) (by decide) rfl ?_
                  (try simp (disch := omega) only [sA_same, sA_ne, sA_sA, sA_sr, sB_s, ud_eq, ud_ne, ud_ud, ud_sr, uB_s, Int.add_zero, Int.reduceAdd])
                  refine v_goto (t := 249) xB_148 dX11_holds_148 (by decide) rfl ?_
                  refine v_iinc6 (n := 252) xB_148 dX11_holds_249 rfl (by first | omega | (simp only [sA_same, sA_s, ud_s, Int.reduceEq, if_true, if_false, ite_true, ite_false, ↓reduceIte, and_true, true_and, eq_self, Int.add_zero, Int.reduceAdd]; omega)) rfl ?_
                  refine v_goto (t := 11) xB_148 dX11_holds_252 (by decide) rfl ?_
                  refine ih ((x && y) :: r) _ _ _ _ _ _ hLA2 (by omega) (by omega) hh.2 (by simp only [List.length_cons]; omega) ⟨(by rw [ud_eq]; revert hS1 hS2; unfold b2i; cases y <;> cases x <;> intro hS1 hS2 <;> first | rfl | (exfalso; simp only [if_true, Bool.false_eq_true, if_false] at hS1 hS2; omega)), SBs_ud _ _ (by omega) (by rw [show n + -1 - 1 = n - 1 - 1 by omega]; exact hS.2.2)⟩ he
            · subst e2
              have hz2 : m 92 k = -124 := hz
              refine v_iload (n := 13) xB_148 dX11_holds_11 rfl rfl ?_
              refine v_aload_n (n := 14) xB_148 dX11_holds_13 rfl rfl ?_
              refine v_gf_s (n := 17) (kz := 14) xB_148 dX11_holds_14 xO_148 fl_11_53 fg_11_14 (sh_81 _ _ _) rfl st_81_14 rfl ?_
              refine v_iload_n (n := 18) xB_148 dX11_holds_17 rfl rfl ?_
              refine v_iaload (n := 19) (lz := 60) xB_148 dX11_holds_18 (sh_91 _ _ _) rfl (by first | omega | (simp only [sA_same, sA_s, ud_s, Int.reduceEq, if_true, if_false, ite_true, ite_false, ↓reduceIte, and_true, true_and, eq_self, Int.add_zero, Int.reduceAdd]; omega)) rfl ?_
              refine v_ic_ge_n (n := 22) xB_148 dX11_holds_19 (by decide) rfl (by first | omega | (simp only [sA_same, sA_s, ud_s, Int.reduceEq, if_true, if_false, ite_true, ite_false, ↓reduceIte, and_true, true_and, eq_self, Int.add_zero, Int.reduceAdd]; omega)) ?_
              refine v_aload_n (n := 23) xB_148 dX11_holds_22 rfl rfl ?_
              refine v_gf_s (n := 26) (kz := 15) xB_148 dX11_holds_23 xO_148 fl_11_56 fg_11_15 (sh_81 _ _ _) rfl st_81_15 rfl ?_
              refine v_iload (n := 28) xB_148 dX11_holds_26 rfl rfl ?_
              refine v_iaload (n := 29) (lz := 600) xB_148 dX11_holds_28 (sh_92 _ _ _) rfl (by first | omega | (simp only [sA_same, sA_s, ud_s, Int.reduceEq, if_true, if_false, ite_true, ite_false, ↓reduceIte, and_true, true_and, eq_self, Int.add_zero, Int.reduceAdd]; omega)) rfl ?_
              refine v_istore7 (n := 31) xB_148 dX11_holds_29 rfl rfl ?_
              refine v_iload (n := 33) xB_148 dX11_holds_31 rfl rfl ?_
              refine v_bipush (n := 35) xB_148 dX11_holds_33 ⟨by decide, by decide⟩ rfl ?_
              refine v_ic_ne_y (t := 67) xB_148 dX11_holds_35 (by decide) rfl (by first | omega | (simp only [sA_same, sA_s, ud_s, Int.reduceEq, if_true, if_false, ite_true, ite_false, ↓reduceIte, and_true, true_and, eq_self, Int.add_zero, Int.reduceAdd]; omega)) ?_
              refine v_iload (n := 69) xB_148 dX11_holds_67 rfl rfl ?_
              refine v_if_ge_n (n := 72) xB_148 dX11_holds_69 (by decide) rfl (by first | omega | (simp only [sA_same, sA_s, ud_s, Int.reduceEq, if_true, if_false, ite_true, ite_false, ↓reduceIte, and_true, true_and, eq_self, Int.add_zero, Int.reduceAdd]; omega)) ?_
              refine v_iinc5 (n := 75) xB_148 dX11_holds_72 rfl (by first | omega | (simp only [sA_same, sA_s, ud_s, Int.reduceEq, if_true, if_false, ite_true, ite_false, ↓reduceIte, and_true, true_and, eq_self, Int.add_zero, Int.reduceAdd]; omega)) rfl ?_
              refine v_aload_n (n := 76) xB_148 dX11_holds_75 rfl rfl ?_
              refine v_gf_s (n := 79) (kz := 21) xB_148 dX11_holds_76 xO_148 fl_11_74 fg_11_21 (sh_81 _ _ _) rfl st_81_21 rfl ?_
              refine v_iload (n := 81) xB_148 dX11_holds_79 rfl rfl ?_
              refine v_iconst (n := 82) xB_148 dX11_holds_81 ⟨by decide, by decide⟩ rfl ?_
              refine v_isub (n := 83) xB_148 dX11_holds_82 (by first | omega | (simp only [sA_same, sA_s, ud_s, Int.reduceEq, if_true, if_false, ite_true, ite_false, ↓reduceIte, and_true, true_and, eq_self, Int.add_zero, Int.reduceAdd]; omega)) rfl ?_
              refine v_iload (n := 85) xB_148 dX11_holds_83 rfl rfl ?_
              refine v_bipush (n := 87) xB_148 dX11_holds_85 ⟨by decide, by decide⟩ rfl ?_
              refine v_ic_ne_y (t := 120) xB_148 dX11_holds_87 (by decide) rfl (by first | omega | (simp only [sA_same, sA_s, ud_s, Int.reduceEq, if_true, if_false, ite_true, ite_false, ↓reduceIte, and_true, true_and, eq_self, Int.add_zero, Int.reduceAdd]; omega)) ?_
              refine v_aload_n (n := 121) xB_148 dX11_holds_120 rfl rfl ?_
              refine v_gf_s (n := 124) (kz := 21) xB_148 dX11_holds_121 xO_148 fl_11_74 fg_11_21 (sh_81 _ _ _) rfl st_81_21 rfl ?_
              refine v_iload (n := 126) xB_148 dX11_holds_124 rfl rfl ?_
              refine v_iconst (n := 127) xB_148 dX11_holds_126 ⟨by decide, by decide⟩ rfl ?_
              refine v_isub (n := 128) xB_148 dX11_holds_127 (by first | omega | (simp only [sA_same, sA_s, ud_s, Int.reduceEq, if_true, if_false, ite_true, ite_false, ↓reduceIte, and_true, true_and, eq_self, Int.add_zero, Int.reduceAdd]; omega)) rfl ?_
              refine v_baload (n := 129) (lz := 100) xB_148 dX11_holds_128 (sh_95 _ _ _) rfl (by first | omega | (simp only [sA_same, sA_s, ud_s, Int.reduceEq, if_true, if_false, ite_true, ite_false, ↓reduceIte, and_true, true_and, eq_self, Int.add_zero, Int.reduceAdd]; omega)) rfl ?_
              refine v_if_ne (t := 142) (n := 132) xB_148 dX11_holds_129 (by decide) rfl rfl (fun g1 => ?_) (fun g1 => ?_)
              · (try simp (disch := omega) only [sA_same, sA_ne, sA_sA, sA_sr, sB_s, ud_eq, ud_ne, ud_ud, ud_sr, uB_s, Int.add_zero, Int.reduceAdd] at g1)
                refine v_iconst (n := 143) xB_148 dX11_holds_142 ⟨by decide, by decide⟩ rfl ?_
                refine v_goto (t := 147) xB_148 dX11_holds_143 (by decide) rfl ?_
                refine v_bastore01 (n := 148) (lz := 100) xB_148 dX11_holds_147 (sh_95 _ _ _) (by decide) rfl (by first | omega | (simp only [sA_same, sA_s, ud_s, Int.reduceEq, if_true, if_false, ite_true, ite_false, ↓reduceIte, and_true, true_and, eq_self, Int.add_zero, Int.reduceAdd]; omega)) (by decide) rfl ?_
                (try simp (disch := omega) only [sA_same, sA_ne, sA_sA, sA_sr, sB_s, ud_eq, ud_ne, ud_ud, ud_sr, uB_s, Int.add_zero, Int.reduceAdd])
                refine v_goto (t := 249) xB_148 dX11_holds_148 (by decide) rfl ?_
                refine v_iinc6 (n := 252) xB_148 dX11_holds_249 rfl (by first | omega | (simp only [sA_same, sA_s, ud_s, Int.reduceEq, if_true, if_false, ite_true, ite_false, ↓reduceIte, and_true, true_and, eq_self, Int.add_zero, Int.reduceAdd]; omega)) rfl ?_
                refine v_goto (t := 11) xB_148 dX11_holds_252 (by decide) rfl ?_
                refine ih ((x || y) :: r) _ _ _ _ _ _ hLA2 (by omega) (by omega) hh.2 (by simp only [List.length_cons]; omega) ⟨(by rw [ud_eq]; revert hS1 hS2; unfold b2i; cases y <;> cases x <;> intro hS1 hS2 <;> first | rfl | (exfalso; simp only [if_true, Bool.false_eq_true, if_false] at hS1 hS2; omega)), SBs_ud _ _ (by omega) (by rw [show n + -1 - 1 = n - 1 - 1 by omega]; exact hS.2.2)⟩ he
              · (try simp (disch := omega) only [sA_same, sA_ne, sA_sA, sA_sr, sB_s, ud_eq, ud_ne, ud_ud, ud_sr, uB_s, Int.add_zero, Int.reduceAdd] at g1)
                refine v_aload_n (n := 133) xB_148 dX11_holds_132 rfl rfl ?_
                refine v_gf_s (n := 136) (kz := 21) xB_148 dX11_holds_133 xO_148 fl_11_74 fg_11_21 (sh_81 _ _ _) rfl st_81_21 rfl ?_
                refine v_iload (n := 138) xB_148 dX11_holds_136 rfl rfl ?_
                refine v_baload (n := 139) (lz := 100) xB_148 dX11_holds_138 (sh_95 _ _ _) rfl (by first | omega | (simp only [sA_same, sA_s, ud_s, Int.reduceEq, if_true, if_false, ite_true, ite_false, ↓reduceIte, and_true, true_and, eq_self, Int.add_zero, Int.reduceAdd]; omega)) rfl ?_
                refine v_if_eq (t := 146) (n := 142) xB_148 dX11_holds_139 (by decide) rfl rfl (fun g2 => ?_) (fun g2 => ?_)
                · (try simp (disch := omega) only [sA_same, sA_ne, sA_sA, sA_sr, sB_s, ud_eq, ud_ne, ud_ud, ud_sr, uB_s, Int.add_zero, Int.reduceAdd] at g2)
                  refine v_iconst (n := 147) xB_148 dX11_holds_146 ⟨by decide, by decide⟩ rfl ?_
                  refine v_bastore01 (n := 148) (lz := 100) xB_148 dX11_holds_147 (sh_95 _ _ _) (by decide) rfl (by first | omega | (simp only [sA_same, sA_s, ud_s, Int.reduceEq, if_true, if_false, ite_true, ite_false, ↓reduceIte, and_true, true_and, eq_self, Int.add_zero, Int.reduceAdd]; omega)) (by decide) rfl ?_
                  (try simp (disch := omega) only [sA_same, sA_ne, sA_sA, sA_sr, sB_s, ud_eq, ud_ne, ud_ud, ud_sr, uB_s, Int.add_zero, Int.reduceAdd])
                  refine v_goto (t := 249) xB_148 dX11_holds_148 (by decide) rfl ?_
                  refine v_iinc6 (n := 252) xB_148 dX11_holds_249 rfl (by first | omega | (simp only [sA_same, sA_s, ud_s, Int.reduceEq, if_true, if_false, ite_true, ite_false, ↓reduceIte, and_true, true_and, eq_self, Int.add_zero, Int.reduceAdd]; omega)) rfl ?_
                  refine v_goto (t := 11) xB_148 dX11_holds_252 (by decide) rfl ?_
                  refine ih ((x || y) :: r) _ _ _ _ _ _ hLA2 (by omega) (by omega) hh.2 (by simp only [List.length_cons]; omega) ⟨(by rw [ud_eq]; revert hS1 hS2; unfold b2i; cases y <;> cases x <;> intro hS1 hS2 <;> first | rfl | (exfalso; simp only [if_true, Bool.false_eq_true, if_false] at hS1 hS2; omega)), SBs_ud _ _ (by omega) (by rw [show n + -1 - 1 = n - 1 - 1 by omega]; exact hS.2.2)⟩ he
                · (try simp (disch := omega) only [sA_same, sA_ne, sA_sA, sA_sr, sB_s, ud_eq, ud_ne, ud_ud, ud_sr, uB_s, Int.add_zero, Int.reduceAdd] at g2)
                  refine v_iconst (n := 143) xB_148 dX11_holds_142 ⟨by decide, by decide⟩ rfl ?_
                  refine v_goto (t := 147) xB_148 dX11_holds_143 (by decide) rfl ?_
                  refine v_bastore01 (n := 148) (lz := 100) xB_148 dX11_holds_147 (sh_95 _ _ _) (by decide) rfl (by first | omega | (simp only [sA_same, sA_s, ud_s, Int.reduceEq, if_true, if_false, ite_true, ite_false, ↓reduceIte, and_true, true_and, eq_self, Int.add_zero, Int.reduceAdd]; omega)) (by decide) rfl ?_
                  (try simp (disch := omega) only [sA_same, sA_ne, sA_sA, sA_sr, sB_s, ud_eq, ud_ne, ud_ud, ud_sr, uB_s, Int.add_zero, Int.reduceAdd])
                  refine v_goto (t := 249) xB_148 dX11_holds_148 (by decide) rfl ?_
                  refine v_iinc6 (n := 252) xB_148 dX11_holds_249 rfl (by first | omega | (simp only [sA_same, sA_s, ud_s, Int.reduceEq, if_true, if_false, ite_true, ite_false, ↓reduceIte, and_true, true_and, eq_self, Int.add_zero, Int.reduceAdd]; omega)) rfl ?_
                  refine v_goto (t := 11) xB_148 dX11_holds_252 (by decide) rfl ?_
                  refine ih ((x || y) :: r) _ _ _ _ _ _ hLA2 (by omega) (by omega) hh.2 (by simp only [List.length_cons]; omega) ⟨(by rw [ud_eq]; revert hS1 hS2; unfold b2i; cases y <;> cases x <;> intro hS1 hS2 <;> first | rfl | (exfalso; simp only [if_true, Bool.false_eq_true, if_false] at hS1 hS2; omega)), SBs_ud _ _ (by omega) (by rw [show n + -1 - 1 = n - 1 - 1 by omega]; exact hS.2.2)⟩ he
      · unfold hg at hh
        rw [if_neg e1, if_neg e2] at hh
        have q1 : evS pg (m 82 t) (m 83 t) tk (z :: U) st = evS pg (m 82 t) (m 83 t) tk U (ev1 z pg (m 82 t) (m 83 t) tk :: st) := by
          show evS pg (m 82 t) (m 83 t) tk U (eop z pg (m 82 t) (m 83 t) tk st) = _
          unfold eop
          rw [if_neg e1, if_neg (by omega), if_neg (by omega)]
        rw [q1] at he
        have hz2 := hz.trans (tr_t hh.2.1 hh.2.2.1)
        have w1 : m 92 k / 1000 = z / 300 := by omega
        have w2 : m 92 k / 100 % 10 = z / 100 % 3 := by omega
        have w3 : m 92 k % 100 = z % 100 := by omega
        refine v_iload (n := 13) xB_148 dX11_holds_11 rfl rfl ?_
        refine v_aload_n (n := 14) xB_148 dX11_holds_13 rfl rfl ?_
        refine v_gf_s (n := 17) (kz := 14) xB_148 dX11_holds_14 xO_148 fl_11_53 fg_11_14 (sh_81 _ _ _) rfl st_81_14 rfl ?_
        refine v_iload_n (n := 18) xB_148 dX11_holds_17 rfl rfl ?_
        refine v_iaload (n := 19) (lz := 60) xB_148 dX11_holds_18 (sh_91 _ _ _) rfl (by first | omega | (simp only [sA_same, sA_s, ud_s, Int.reduceEq, if_true, if_false, ite_true, ite_false, ↓reduceIte, and_true, true_and, eq_self, Int.add_zero, Int.reduceAdd]; omega)) rfl ?_
        refine v_ic_ge_n (n := 22) xB_148 dX11_holds_19 (by decide) rfl (by first | omega | (simp only [sA_same, sA_s, ud_s, Int.reduceEq, if_true, if_false, ite_true, ite_false, ↓reduceIte, and_true, true_and, eq_self, Int.add_zero, Int.reduceAdd]; omega)) ?_
        refine v_aload_n (n := 23) xB_148 dX11_holds_22 rfl rfl ?_
        refine v_gf_s (n := 26) (kz := 15) xB_148 dX11_holds_23 xO_148 fl_11_56 fg_11_15 (sh_81 _ _ _) rfl st_81_15 rfl ?_
        refine v_iload (n := 28) xB_148 dX11_holds_26 rfl rfl ?_
        refine v_iaload (n := 29) (lz := 600) xB_148 dX11_holds_28 (sh_92 _ _ _) rfl (by first | omega | (simp only [sA_same, sA_s, ud_s, Int.reduceEq, if_true, if_false, ite_true, ite_false, ↓reduceIte, and_true, true_and, eq_self, Int.add_zero, Int.reduceAdd]; omega)) rfl ?_
        refine v_istore7 (n := 31) xB_148 dX11_holds_29 rfl rfl ?_
        refine v_iload (n := 33) xB_148 dX11_holds_31 rfl rfl ?_
        refine v_bipush (n := 35) xB_148 dX11_holds_33 ⟨by decide, by decide⟩ rfl ?_
        refine v_ic_ne_y (t := 67) xB_148 dX11_holds_35 (by decide) rfl (by first | omega | (simp only [sA_same, sA_s, ud_s, Int.reduceEq, if_true, if_false, ite_true, ite_false, ↓reduceIte, and_true, true_and, eq_self, Int.add_zero, Int.reduceAdd]; omega)) ?_
        refine v_iload (n := 69) xB_148 dX11_holds_67 rfl rfl ?_
        refine v_if_ge_y (t := 151) xB_148 dX11_holds_69 (by decide) rfl (by first | omega | (simp only [sA_same, sA_s, ud_s, Int.reduceEq, if_true, if_false, ite_true, ite_false, ↓reduceIte, and_true, true_and, eq_self, Int.add_zero, Int.reduceAdd]; omega)) ?_
        refine v_aload_n (n := 152) xB_148 dX11_holds_151 rfl rfl ?_
        refine v_iload (n := 154) xB_148 dX11_holds_152 rfl rfl ?_
        refine v_sipush (n := 157) xB_148 dX11_holds_154 ⟨by decide, by decide⟩ rfl ?_
        refine v_idiv (n := 158) xB_148 dX11_holds_157 (by first | omega | (simp only [sA_same, sA_s, ud_s, Int.reduceEq, if_true, if_false, ite_true, ite_false, ↓reduceIte, and_true, true_and, eq_self, Int.add_zero, Int.reduceAdd]; omega)) rfl ?_
        refine v_iload_n (n := 159) xB_148 dX11_holds_158 rfl rfl ?_
        refine v_iload_n (n := 160) xB_148 dX11_holds_159 rfl rfl ?_
        refine v_iload (n := 162) xB_148 dX11_holds_160 rfl rfl ?_
        refine v_call_v (n := 165) xB_148 dX11_holds_162 xO_148 iv_11_292 rfl (sh_81 _ _ _) rfl rfl rfl ?_
        refine c_factOf (by omega) (by first | omega | (simp only [sA_same, sA_s, ud_s, Int.reduceEq, if_true, if_false, ite_true, ite_false, ↓reduceIte, and_true, true_and, eq_self, Int.add_zero, Int.reduceAdd]; omega)) (by first | omega | (simp only [sA_same, sA_s, ud_s, Int.reduceEq, if_true, if_false, ite_true, ite_false, ↓reduceIte, and_true, true_and, eq_self, Int.add_zero, Int.reduceAdd]; omega)) ?_
        refine v_istore8 (n := 167) xB_148 dX11_holds_165 rfl rfl ?_
        refine v_iload (n := 169) xB_148 dX11_holds_167 rfl rfl ?_
        refine v_bipush (n := 171) xB_148 dX11_holds_169 ⟨by decide, by decide⟩ rfl ?_
        refine v_idiv (n := 172) xB_148 dX11_holds_171 (by first | omega | (simp only [sA_same, sA_s, ud_s, Int.reduceEq, if_true, if_false, ite_true, ite_false, ↓reduceIte, and_true, true_and, eq_self, Int.add_zero, Int.reduceAdd]; omega)) rfl ?_
        refine v_bipush (n := 174) xB_148 dX11_holds_172 ⟨by decide, by decide⟩ rfl ?_
        refine v_irem (n := 175) xB_148 dX11_holds_174 (by first | omega | (simp only [sA_same, sA_s, ud_s, Int.reduceEq, if_true, if_false, ite_true, ite_false, ↓reduceIte, and_true, true_and, eq_self, Int.add_zero, Int.reduceAdd]; omega)) rfl ?_
        refine v_istore9 (n := 177) xB_148 dX11_holds_175 rfl rfl ?_
        refine v_aload_n (n := 178) xB_148 dX11_holds_177 rfl rfl ?_
        refine v_gf_s (n := 181) (kz := 21) xB_148 dX11_holds_178 xO_148 fl_11_74 fg_11_21 (sh_81 _ _ _) rfl st_81_21 rfl ?_
        refine v_iload (n := 183) xB_148 dX11_holds_181 rfl rfl ?_
        refine v_iload (n := 185) xB_148 dX11_holds_183 rfl rfl ?_
        refine v_if_ne (t := 206) (n := 188) xB_148 dX11_holds_185 (by decide) rfl rfl (fun g1 => ?_) (fun g1 => ?_)
        · (try simp (disch := omega) only [sA_same, sA_ne, sA_sA, sA_sr, sB_s, ud_eq, ud_ne, ud_ud, ud_sr, uB_s, Int.add_zero, Int.reduceAdd] at g1)
          refine v_iload (n := 208) xB_148 dX11_holds_206 rfl rfl ?_
          refine v_iconst (n := 209) xB_148 dX11_holds_208 ⟨by decide, by decide⟩ rfl ?_
          refine v_ic_ne (t := 230) (n := 212) xB_148 dX11_holds_209 (by decide) rfl rfl (fun g2 => ?_) (fun g2 => ?_)
          · (try simp (disch := omega) only [sA_same, sA_ne, sA_sA, sA_sr, sB_s, ud_eq, ud_ne, ud_ud, ud_sr, uB_s, Int.add_zero, Int.reduceAdd] at g2)
            refine v_iload (n := 232) xB_148 dX11_holds_230 rfl rfl ?_
            refine v_iload (n := 234) xB_148 dX11_holds_232 rfl rfl ?_
            refine v_bipush (n := 236) xB_148 dX11_holds_234 ⟨by decide, by decide⟩ rfl ?_
            refine v_irem (n := 237) xB_148 dX11_holds_236 (by first | omega | (simp only [sA_same, sA_s, ud_s, Int.reduceEq, if_true, if_false, ite_true, ite_false, ↓reduceIte, and_true, true_and, eq_self, Int.add_zero, Int.reduceAdd]; omega)) rfl ?_
            refine v_ic_le (t := 244) (n := 240) xB_148 dX11_holds_237 (by decide) rfl rfl (fun g3 => ?_) (fun g3 => ?_)
            · (try simp (disch := omega) only [sA_same, sA_ne, sA_sA, sA_sr, sB_s, ud_eq, ud_ne, ud_ud, ud_sr, uB_s, Int.add_zero, Int.reduceAdd] at g3)
              refine v_iconst (n := 245) xB_148 dX11_holds_244 ⟨by decide, by decide⟩ rfl ?_
              refine v_bastore01 (n := 246) (lz := 100) xB_148 dX11_holds_245 (sh_95 _ _ _) (by decide) rfl (by first | omega | (simp only [sA_same, sA_s, ud_s, Int.reduceEq, if_true, if_false, ite_true, ite_false, ↓reduceIte, and_true, true_and, eq_self, Int.add_zero, Int.reduceAdd]; omega)) (by decide) rfl ?_
              (try simp (disch := omega) only [sA_same, sA_ne, sA_sA, sA_sr, sB_s, ud_eq, ud_ne, ud_ud, ud_sr, uB_s, Int.add_zero, Int.reduceAdd])
              refine v_iinc5 (n := 249) xB_148 dX11_holds_246 rfl (by first | omega | (simp only [sA_same, sA_s, ud_s, Int.reduceEq, if_true, if_false, ite_true, ite_false, ↓reduceIte, and_true, true_and, eq_self, Int.add_zero, Int.reduceAdd]; omega)) rfl ?_
              refine v_iinc6 (n := 252) xB_148 dX11_holds_249 rfl (by first | omega | (simp only [sA_same, sA_s, ud_s, Int.reduceEq, if_true, if_false, ite_true, ite_false, ↓reduceIte, and_true, true_and, eq_self, Int.add_zero, Int.reduceAdd]; omega)) rfl ?_
              refine v_goto (t := 11) xB_148 dX11_holds_252 (by decide) rfl ?_
              refine ih (ev1 z pg (m 82 t) (m 83 t) tk :: st) _ _ _ _ _ _ hLA2 (by omega) (by omega) hh.2.2.2 (by simp only [List.length_cons]; omega) ⟨by rw [show n + 1 - 1 = n by omega, ud_eq]; first | (rw [ev1_0 (by omega), ← w1, ← w3]; first | exact b2i_t (by omega) | exact b2i_f (by omega)) | (rw [ev1_1 (by omega), ← w1, ← w3]; first | exact b2i_t (by omega) | exact b2i_f (by omega)) | (rw [ev1_2 (by omega), ← w1, ← w3]; first | exact b2i_t (by omega) | exact b2i_f (by omega)), by rw [show n + 1 - 1 = n by omega]; exact SBs_ud _ _ (by omega) hS⟩ he
            · (try simp (disch := omega) only [sA_same, sA_ne, sA_sA, sA_sr, sB_s, ud_eq, ud_ne, ud_ud, ud_sr, uB_s, Int.add_zero, Int.reduceAdd] at g3)
              refine v_iconst (n := 241) xB_148 dX11_holds_240 ⟨by decide, by decide⟩ rfl ?_
              refine v_goto (t := 245) xB_148 dX11_holds_241 (by decide) rfl ?_
              refine v_bastore01 (n := 246) (lz := 100) xB_148 dX11_holds_245 (sh_95 _ _ _) (by decide) rfl (by first | omega | (simp only [sA_same, sA_s, ud_s, Int.reduceEq, if_true, if_false, ite_true, ite_false, ↓reduceIte, and_true, true_and, eq_self, Int.add_zero, Int.reduceAdd]; omega)) (by decide) rfl ?_
              (try simp (disch := omega) only [sA_same, sA_ne, sA_sA, sA_sr, sB_s, ud_eq, ud_ne, ud_ud, ud_sr, uB_s, Int.add_zero, Int.reduceAdd])
              refine v_iinc5 (n := 249) xB_148 dX11_holds_246 rfl (by first | omega | (simp only [sA_same, sA_s, ud_s, Int.reduceEq, if_true, if_false, ite_true, ite_false, ↓reduceIte, and_true, true_and, eq_self, Int.add_zero, Int.reduceAdd]; omega)) rfl ?_
              refine v_iinc6 (n := 252) xB_148 dX11_holds_249 rfl (by first | omega | (simp only [sA_same, sA_s, ud_s, Int.reduceEq, if_true, if_false, ite_true, ite_false, ↓reduceIte, and_true, true_and, eq_self, Int.add_zero, Int.reduceAdd]; omega)) rfl ?_
              refine v_goto (t := 11) xB_148 dX11_holds_252 (by decide) rfl ?_
              refine ih (ev1 z pg (m 82 t) (m 83 t) tk :: st) _ _ _ _ _ _ hLA2 (by omega) (by omega) hh.2.2.2 (by simp only [List.length_cons]; omega) ⟨by rw [show n + 1 - 1 = n by omega, ud_eq]; first | (rw [ev1_0 (by omega), ← w1, ← w3]; first | exact b2i_t (by omega) | exact b2i_f (by omega)) | (rw [ev1_1 (by omega), ← w1, ← w3]; first | exact b2i_t (by omega) | exact b2i_f (by omega)) | (rw [ev1_2 (by omega), ← w1, ← w3]; first | exact b2i_t (by omega) | exact b2i_f (by omega)), by rw [show n + 1 - 1 = n by omega]; exact SBs_ud _ _ (by omega) hS⟩ he
          · (try simp (disch := omega) only [sA_same, sA_ne, sA_sA, sA_sr, sB_s, ud_eq, ud_ne, ud_ud, ud_sr, uB_s, Int.add_zero, Int.reduceAdd] at g2)
            refine v_iload (n := 214) xB_148 dX11_holds_212 rfl rfl ?_
            refine v_iload (n := 216) xB_148 dX11_holds_214 rfl rfl ?_
            refine v_bipush (n := 218) xB_148 dX11_holds_216 ⟨by decide, by decide⟩ rfl ?_
            refine v_irem (n := 219) xB_148 dX11_holds_218 (by first | omega | (simp only [sA_same, sA_s, ud_s, Int.reduceEq, if_true, if_false, ite_true, ite_false, ↓reduceIte, and_true, true_and, eq_self, Int.add_zero, Int.reduceAdd]; omega)) rfl ?_
            refine v_ic_ne (t := 226) (n := 222) xB_148 dX11_holds_219 (by decide) rfl rfl (fun g4 => ?_) (fun g4 => ?_)
            · (try simp (disch := omega) only [sA_same, sA_ne, sA_sA, sA_sr, sB_s, ud_eq, ud_ne, ud_ud, ud_sr, uB_s, Int.add_zero, Int.reduceAdd] at g4)
              refine v_iconst (n := 227) xB_148 dX11_holds_226 ⟨by decide, by decide⟩ rfl ?_
              refine v_goto (t := 245) xB_148 dX11_holds_227 (by decide) rfl ?_
              refine v_bastore01 (n := 246) (lz := 100) xB_148 dX11_holds_245 (sh_95 _ _ _) (by decide) rfl (by first | omega | (simp only [sA_same, sA_s, ud_s, Int.reduceEq, if_true, if_false, ite_true, ite_false, ↓reduceIte, and_true, true_and, eq_self, Int.add_zero, Int.reduceAdd]; omega)) (by decide) rfl ?_
              (try simp (disch := omega) only [sA_same, sA_ne, sA_sA, sA_sr, sB_s, ud_eq, ud_ne, ud_ud, ud_sr, uB_s, Int.add_zero, Int.reduceAdd])
              refine v_iinc5 (n := 249) xB_148 dX11_holds_246 rfl (by first | omega | (simp only [sA_same, sA_s, ud_s, Int.reduceEq, if_true, if_false, ite_true, ite_false, ↓reduceIte, and_true, true_and, eq_self, Int.add_zero, Int.reduceAdd]; omega)) rfl ?_
              refine v_iinc6 (n := 252) xB_148 dX11_holds_249 rfl (by first | omega | (simp only [sA_same, sA_s, ud_s, Int.reduceEq, if_true, if_false, ite_true, ite_false, ↓reduceIte, and_true, true_and, eq_self, Int.add_zero, Int.reduceAdd]; omega)) rfl ?_
              refine v_goto (t := 11) xB_148 dX11_holds_252 (by decide) rfl ?_
              refine ih (ev1 z pg (m 82 t) (m 83 t) tk :: st) _ _ _ _ _ _ hLA2 (by omega) (by omega) hh.2.2.2 (by simp only [List.length_cons]; omega) ⟨by rw [show n + 1 - 1 = n by omega, ud_eq]; first | (rw [ev1_0 (by omega), ← w1, ← w3]; first | exact b2i_t (by omega) | exact b2i_f (by omega)) | (rw [ev1_1 (by omega), ← w1, ← w3]; first | exact b2i_t (by omega) | exact b2i_f (by omega)) | (rw [ev1_2 (by omega), ← w1, ← w3]; first | exact b2i_t (by omega) | exact b2i_f (by omega)), by rw [show n + 1 - 1 = n by omega]; exact SBs_ud _ _ (by omega) hS⟩ he
            · (try simp (disch := omega) only [sA_same, sA_ne, sA_sA, sA_sr, sB_s, ud_eq, ud_ne, ud_ud, ud_sr, uB_s, Int.add_zero, Int.reduceAdd] at g4)
              refine v_iconst (n := 223) xB_148 dX11_holds_222 ⟨by decide, by decide⟩ rfl ?_
              refine v_goto (t := 245) xB_148 dX11_holds_223 (by decide) rfl ?_
              refine v_bastore01 (n := 246) (lz := 100) xB_148 dX11_holds_245 (sh_95 _ _ _) (by decide) rfl (by first | omega | (simp only [sA_same, sA_s, ud_s, Int.reduceEq, if_true, if_false, ite_true, ite_false, ↓reduceIte, and_true, true_and, eq_self, Int.add_zero, Int.reduceAdd]; omega)) (by decide) rfl ?_
              (try simp (disch := omega) only [sA_same, sA_ne, sA_sA, sA_sr, sB_s, ud_eq, ud_ne, ud_ud, ud_sr, uB_s, Int.add_zero, Int.reduceAdd])
              refine v_iinc5 (n := 249) xB_148 dX11_holds_246 rfl (by first | omega | (simp only [sA_same, sA_s, ud_s, Int.reduceEq, if_true, if_false, ite_true, ite_false, ↓reduceIte, and_true, true_and, eq_self, Int.add_zero, Int.reduceAdd]; omega)) rfl ?_
              refine v_iinc6 (n := 252) xB_148 dX11_holds_249 rfl (by first | omega | (simp only [sA_same, sA_s, ud_s, Int.reduceEq, if_true, if_false, ite_true, ite_false, ↓reduceIte, and_true, true_and, eq_self, Int.add_zero, Int.reduceAdd]; omega)) rfl ?_
              refine v_goto (t := 11) xB_148 dX11_holds_252 (by decide) rfl ?_
              refine ih (ev1 z pg (m 82 t) (m 83 t) tk :: st) _ _ _ _ _ _ hLA2 (by omega) (by omega) hh.2.2.2 (by simp only [List.length_cons]; omega) ⟨by rw [show n + 1 - 1 = n by omega, ud_eq]; first | (rw [ev1_0 (by omega), ← w1, ← w3]; first | exact b2i_t (by omega) | exact b2i_f (by omega)) | (rw [ev1_1 (by omega), ← w1, ← w3]; first | exact b2i_t (by omega) | exact b2i_f (by omega)) | (rw [ev1_2 (by omega), ← w1, ← w3]; first | exact b2i_t (by omega) | exact b2i_f (by omega)), by rw [show n + 1 - 1 = n by omega]; exact SBs_ud _ _ (by omega) hS⟩ he
        · (try simp (disch := omega) only [sA_same, sA_ne, sA_sA, sA_sr, sB_s, ud_eq, ud_ne, ud_ud, ud_sr, uB_s, Int.add_zero, Int.reduceAdd] at g1)
          refine v_iload (n := 190) xB_148 dX11_holds_188 rfl rfl ?_
          refine v_iload (n := 192) xB_148 dX11_holds_190 rfl rfl ?_
          refine v_bipush (n := 194) xB_148 dX11_holds_192 ⟨by decide, by decide⟩ rfl ?_
          refine v_irem (n := 195) xB_148 dX11_holds_194 (by first | omega | (simp only [sA_same, sA_s, ud_s, Int.reduceEq, if_true, if_false, ite_true, ite_false, ↓reduceIte, and_true, true_and, eq_self, Int.add_zero, Int.reduceAdd]; omega)) rfl ?_
          refine v_ic_ge (t := 202) (n := 198) xB_148 dX11_holds_195 (by decide) rfl rfl (fun g5 => ?_) (fun g5 => ?_)
          · (try simp (disch := omega) only [sA_same, sA_ne, sA_sA, sA_sr, sB_s, ud_eq, ud_ne, ud_ud, ud_sr, uB_s, Int.add_zero, Int.reduceAdd] at g5)
            refine v_iconst (n := 203) xB_148 dX11_holds_202 ⟨by decide, by decide⟩ rfl ?_
            refine v_goto (t := 245) xB_148 dX11_holds_203 (by decide) rfl ?_
            refine v_bastore01 (n := 246) (lz := 100) xB_148 dX11_holds_245 (sh_95 _ _ _) (by decide) rfl (by first | omega | (simp only [sA_same, sA_s, ud_s, Int.reduceEq, if_true, if_false, ite_true, ite_false, ↓reduceIte, and_true, true_and, eq_self, Int.add_zero, Int.reduceAdd]; omega)) (by decide) rfl ?_
            (try simp (disch := omega) only [sA_same, sA_ne, sA_sA, sA_sr, sB_s, ud_eq, ud_ne, ud_ud, ud_sr, uB_s, Int.add_zero, Int.reduceAdd])
            refine v_iinc5 (n := 249) xB_148 dX11_holds_246 rfl (by first | omega | (simp only [sA_same, sA_s, ud_s, Int.reduceEq, if_true, if_false, ite_true, ite_false, ↓reduceIte, and_true, true_and, eq_self, Int.add_zero, Int.reduceAdd]; omega)) rfl ?_
            refine v_iinc6 (n := 252) xB_148 dX11_holds_249 rfl (by first | omega | (simp only [sA_same, sA_s, ud_s, Int.reduceEq, if_true, if_false, ite_true, ite_false, ↓reduceIte, and_true, true_and, eq_self, Int.add_zero, Int.reduceAdd]; omega)) rfl ?_
            refine v_goto (t := 11) xB_148 dX11_holds_252 (by decide) rfl ?_
            refine ih (ev1 z pg (m 82 t) (m 83 t) tk :: st) _ _ _ _ _ _ hLA2 (by omega) (by omega) hh.2.2.2 (by simp only [List.length_cons]; omega) ⟨by rw [show n + 1 - 1 = n by omega, ud_eq]; first | (rw [ev1_0 (by omega), ← w1, ← w3]; first | exact b2i_t (by omega) | exact b2i_f (by omega)) | (rw [ev1_1 (by omega), ← w1, ← w3]; first | exact b2i_t (by omega) | exact b2i_f (by omega)) | (rw [ev1_2 (by omega), ← w1, ← w3]; first | exact b2i_t (by omega) | exact b2i_f (by omega)), by rw [show n + 1 - 1 = n by omega]; exact SBs_ud _ _ (by omega) hS⟩ he
          · (try simp (disch := omega) only [sA_same, sA_ne, sA_sA, sA_sr, sB_s, ud_eq, ud_ne, ud_ud, ud_sr, uB_s, Int.add_zero, Int.reduceAdd] at g5)
            refine v_iconst (n := 199) xB_148 dX11_holds_198 ⟨by decide, by decide⟩ rfl ?_
            refine v_goto (t := 245) xB_148 dX11_holds_199 (by decide) rfl ?_
            refine v_bastore01 (n := 246) (lz := 100) xB_148 dX11_holds_245 (sh_95 _ _ _) (by decide) rfl (by first | omega | (simp only [sA_same, sA_s, ud_s, Int.reduceEq, if_true, if_false, ite_true, ite_false, ↓reduceIte, and_true, true_and, eq_self, Int.add_zero, Int.reduceAdd]; omega)) (by decide) rfl ?_
            (try simp (disch := omega) only [sA_same, sA_ne, sA_sA, sA_sr, sB_s, ud_eq, ud_ne, ud_ud, ud_sr, uB_s, Int.add_zero, Int.reduceAdd])
            refine v_iinc5 (n := 249) xB_148 dX11_holds_246 rfl (by first | omega | (simp only [sA_same, sA_s, ud_s, Int.reduceEq, if_true, if_false, ite_true, ite_false, ↓reduceIte, and_true, true_and, eq_self, Int.add_zero, Int.reduceAdd]; omega)) rfl ?_
            refine v_iinc6 (n := 252) xB_148 dX11_holds_249 rfl (by first | omega | (simp only [sA_same, sA_s, ud_s, Int.reduceEq, if_true, if_false, ite_true, ite_false, ↓reduceIte, and_true, true_and, eq_self, Int.add_zero, Int.reduceAdd]; omega)) rfl ?_
            refine v_goto (t := 11) xB_148 dX11_holds_252 (by decide) rfl ?_
            refine ih (ev1 z pg (m 82 t) (m 83 t) tk :: st) _ _ _ _ _ _ hLA2 (by omega) (by omega) hh.2.2.2 (by simp only [List.length_cons]; omega) ⟨by rw [show n + 1 - 1 = n by omega, ud_eq]; first | (rw [ev1_0 (by omega), ← w1, ← w3]; first | exact b2i_t (by omega) | exact b2i_f (by omega)) | (rw [ev1_1 (by omega), ← w1, ← w3]; first | exact b2i_t (by omega) | exact b2i_f (by omega)) | (rw [ev1_2 (by omega), ← w1, ← w3]; first | exact b2i_t (by omega) | exact b2i_f (by omega)), by rw [show n + 1 - 1 = n by omega]; exact SBs_ud _ _ (by omega) hS⟩ he
