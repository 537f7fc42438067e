/-! The class: what a job asks of a page. -/
theorem q_st_lt : ∀ e ∈ q_st, e.1 < 129 := by decide +kernel
theorem st_dyn {o : Int} (k : Int) (h : 129 ≤ o) : stat o k = none := by
  unfold stat
  rw [List.find?_eq_none.mpr]
  · rfl
  · intro e he
    have := q_st_lt e he
    simp only [Bool.and_eq_true, beq_iff_eq, not_and]
    intro e2
    omega
def dyS (dy : List (Nat × Nat)) (i : Int) : Nat × Nat := dy.getD (i.toNat - NB) (99, 0)
theorem sh_dyn {i : Int} (h : 129 ≤ i) (m : PM) (dy : List (Nat × Nat)) (L : Nat) : shp (m, (none, (dy, L))) i = dyS dy i := by
  unfold shp; rw [if_neg (by omega), if_neg (by omega)]; rfl
theorem sh_dyn' {i : Int} {x : Nat × Nat} (h : 129 ≤ i) {dy : List (Nat × Nat)} (e : dyS dy i = x) (m : PM) (L : Nat) : shp (m, (none, (dy, L))) i = x := (sh_dyn h m dy L).trans e
def bv : List Bool → Int
  | [] => 0
  | b :: st => b2i b + 2 * bv st
theorem b2i_in (b : Bool) : b2i b = 0 ∨ b2i b = 1 := by unfold b2i; cases b <;> simp
theorem bv_in : ∀ (st : List Bool), 0 ≤ bv st ∧ bv st < 2 ^ st.length := by
  intro st
  induction st with
  | nil => unfold bv; decide
  | cons b st ih =>
    have := b2i_in b
    unfold bv
    rw [List.length_cons, Int.pow_succ]
    omega
theorem bv_30 {st : List Bool} (h : st.length ≤ 30) : 0 ≤ bv st ∧ bv st < 1073741824 := by
  have h1 := bv_in st
  have h2 : (2 : Nat) ^ st.length ≤ 2 ^ 30 := Nat.pow_le_pow_right (by omega) h
  have h3 : ((2 ^ st.length : Nat) : Int) = (2 : Int) ^ st.length := by simp
  have h4 : (2 : Nat) ^ 30 = 1073741824 := by decide
  omega
theorem bv_31 {st : List Bool} (h : st.length ≤ 31) : 0 ≤ bv st ∧ bv st < 2147483648 := by
  have h1 := bv_in st
  have h2 : (2 : Nat) ^ st.length ≤ 2 ^ 31 := Nat.pow_le_pow_right (by omega) h
  have h3 : ((2 ^ st.length : Nat) : Int) = (2 : Int) ^ st.length := by simp
  have h4 : (2 : Nat) ^ 31 = 2147483648 := by decide
  omega
def isoF (x z : Int) : Bool := if z / 100 % 3 = 0 then decide (x < z % 100) else if z / 100 % 3 = 1 then decide (x = z % 100) else decide (z % 100 < x)
theorem ev1_iso (z p k v n : Int) : ev1 z p k v n = isoF (vl (z / 300) p k v n) z := rfl
set_option maxHeartbeats 1000000 in
theorem k_value {d : Nat} {x p k v n : Int} {σ : PS} {Q : Option PV → PS → Prop} (hd : 1 ≤ d) (hx : 0 ≤ p) (o1 : Q (some (.inl (vl x p k v n))) σ) : C d 17 [.inl x, .inl p, .inl k, .inl v, .inl n] σ Q := by
  refine C_go (k := 0) hd xL_17 (fun d hd => ?_)
  show V d 17 (0, ([some (.inl x), some (.inl p), some (.inl k), some (.inl v), some (.inl n)], ([], σ))) Q
  refine v_iload_n (n := 1) xB_17 dX2_value_0 rfl rfl ?_
  refine v_tsw xB_17 dX2_value_1 rfl ?_
  refine ts_c (lo' := 1) rfl (fun g1 => ?_) (fun g1 => ?_)
  · refine jm_go (t := 36) (by decide) rfl ?_
    refine v_iload_n (n := 37) xB_17 dX2_value_36 rfl rfl ?_
    refine v_ireturn0 xB_17 dX2_value_37 xK_17 ?_
    unfold vl at o1; (repeat first | rw [if_pos (by omega)] at o1 | rw [if_neg (by omega)] at o1); exact o1
  refine ts_c (lo' := 2) rfl (fun g2 => ?_) (fun g2 => ?_)
  · refine jm_go (t := 38) (by decide) rfl ?_
    refine v_iload_n (n := 39) xB_17 dX2_value_38 rfl rfl ?_
    refine v_iconst (n := 40) xB_17 dX2_value_39 ⟨by decide, by decide⟩ rfl ?_
    refine v_irem (n := 41) xB_17 dX2_value_40 (by first | omega | (simp only [sA_same, sA_s, ud_s, Int.reduceEq, if_true, if_false, ite_true, ite_false, ↓reduceIte, and_true, true_and, eq_self, Int.add_zero, Int.reduceAdd]; omega) | (simp (disch := omega) only [sA_same, sA_ne, ud_eq, ud_ne, Int.add_zero, Int.reduceAdd]; omega)) rfl ?_
    refine v_ireturn0 xB_17 dX2_value_41 xK_17 ?_
    unfold vl at o1; (repeat first | rw [if_pos (by omega)] at o1 | rw [if_neg (by omega)] at o1); exact o1
  refine ts_c (lo' := 3) rfl (fun g3 => ?_) (fun g3 => ?_)
  · refine jm_go (t := 42) (by decide) rfl ?_
    refine v_iload_n (n := 43) xB_17 dX2_value_42 rfl rfl ?_
    refine v_bipush (n := 45) xB_17 dX2_value_43 ⟨by decide, by decide⟩ rfl ?_
    refine v_irem (n := 46) xB_17 dX2_value_45 (by first | omega | (simp only [sA_same, sA_s, ud_s, Int.reduceEq, if_true, if_false, ite_true, ite_false, ↓reduceIte, and_true, true_and, eq_self, Int.add_zero, Int.reduceAdd]; omega) | (simp (disch := omega) only [sA_same, sA_ne, ud_eq, ud_ne, Int.add_zero, Int.reduceAdd]; omega)) rfl ?_
    refine v_ireturn0 xB_17 dX2_value_46 xK_17 ?_
    unfold vl at o1; (repeat first | rw [if_pos (by omega)] at o1 | rw [if_neg (by omega)] at o1); exact o1
  refine ts_c (lo' := 4) rfl (fun g4 => ?_) (fun g4 => ?_)
  · refine jm_go (t := 47) (by decide) rfl ?_
    refine v_iload_n (n := 48) xB_17 dX2_value_47 rfl rfl ?_
    refine v_ireturn0 xB_17 dX2_value_48 xK_17 ?_
    unfold vl at o1; (repeat first | rw [if_pos (by omega)] at o1 | rw [if_neg (by omega)] at o1); exact o1
  refine ts_c (lo' := 5) rfl (fun g5 => ?_) (fun g5 => ?_)
  · refine jm_go (t := 49) (by decide) rfl ?_
    refine v_iload_n (n := 50) xB_17 dX2_value_49 rfl rfl ?_
    refine v_ireturn0 xB_17 dX2_value_50 xK_17 ?_
    unfold vl at o1; (repeat first | rw [if_pos (by omega)] at o1 | rw [if_neg (by omega)] at o1); exact o1
  refine ts_n ?_
  refine jm_go (t := 51) (by decide) rfl ?_
  refine v_iload (n := 53) xB_17 dX2_value_51 rfl rfl ?_
  refine v_ireturn0 xB_17 dX2_value_53 xK_17 ?_
  unfold vl at o1; (repeat first | rw [if_pos (by omega)] at o1 | rw [if_neg (by omega)] at o1); exact o1
set_option maxHeartbeats 1000000 in
theorem k_isSo {d : Nat} {x z : Int} {σ : PS} {Q : Option PV → PS → Prop} (hd : 1 ≤ d) (hz : 0 ≤ z) (o1 : (isoF x z = true) → Q (some (.inl 1)) σ) (o2 : (isoF x z = false) → Q (some (.inl 0)) σ) : C d 18 [.inl x, .inl z] σ Q := by
  refine C_go (k := 0) hd xL_18 (fun d hd => ?_)
  show V d 18 (0, ([some (.inl x), some (.inl z), none], ([], σ))) Q
  refine v_iload_n (n := 1) xB_18 dX2_isSo_0 rfl rfl ?_
  refine v_bipush (n := 3) xB_18 dX2_isSo_1 ⟨by decide, by decide⟩ rfl ?_
  refine v_irem (n := 4) xB_18 dX2_isSo_3 (by first | omega | (simp only [sA_same, sA_s, ud_s, Int.reduceEq, if_true, if_false, ite_true, ite_false, ↓reduceIte, and_true, true_and, eq_self, Int.add_zero, Int.reduceAdd]; omega) | (simp (disch := omega) only [sA_same, sA_ne, ud_eq, ud_ne, Int.add_zero, Int.reduceAdd]; omega)) rfl ?_
  refine v_istore_n2 (n := 5) xB_18 dX2_isSo_4 rfl rfl ?_
  refine v_iload_n (n := 6) xB_18 dX2_isSo_5 rfl rfl ?_
  refine v_bipush (n := 8) xB_18 dX2_isSo_6 ⟨by decide, by decide⟩ rfl ?_
  refine v_idiv (n := 9) xB_18 dX2_isSo_8 (by first | omega | (simp only [sA_same, sA_s, ud_s, Int.reduceEq, if_true, if_false, ite_true, ite_false, ↓reduceIte, and_true, true_and, eq_self, Int.add_zero, Int.reduceAdd]; omega) | (simp (disch := omega) only [sA_same, sA_ne, ud_eq, ud_ne, Int.add_zero, Int.reduceAdd]; omega)) rfl ?_
  refine v_iconst (n := 10) xB_18 dX2_isSo_9 ⟨by decide, by decide⟩ rfl ?_
  refine v_irem (n := 11) xB_18 dX2_isSo_10 (by first | omega | (simp only [sA_same, sA_s, ud_s, Int.reduceEq, if_true, if_false, ite_true, ite_false, ↓reduceIte, and_true, true_and, eq_self, Int.add_zero, Int.reduceAdd]; omega) | (simp (disch := omega) only [sA_same, sA_ne, ud_eq, ud_ne, Int.add_zero, Int.reduceAdd]; omega)) rfl ?_
  refine v_lsw xB_18 dX2_isSo_11 rfl ?_
  refine lsp_c (fun g1 => ?_) (fun g1 => ?_)
  · refine jm_go (t := 36) (by decide) rfl ?_
    refine v_iload_n (n := 37) xB_18 dX2_isSo_36 rfl rfl ?_
    refine v_iload_n (n := 38) xB_18 dX2_isSo_37 rfl rfl ?_
    refine v_ic_ge (t := 45) (n := 41) xB_18 dX2_isSo_38 (by decide) rfl rfl (fun g2 => ?_) (fun g2 => ?_)
    · refine v_iconst (n := 46) xB_18 dX2_isSo_45 ⟨by decide, by decide⟩ rfl ?_
      refine v_ireturn1 xB_18 dX2_isSo_46 xK_18 (by decide) ?_
      unfold isoF at o1 o2
      first | rw [if_pos (by omega)] at o1 o2 | rw [if_neg (by omega), if_pos (by omega)] at o1 o2 | rw [if_neg (by omega), if_neg (by omega)] at o1 o2
      first | exact o1 (decide_eq_true (by omega)) | exact o2 (decide_eq_false (by omega))
    · refine v_iconst (n := 42) xB_18 dX2_isSo_41 ⟨by decide, by decide⟩ rfl ?_
      refine v_goto (t := 46) xB_18 dX2_isSo_42 (by decide) rfl ?_
      refine v_ireturn1 xB_18 dX2_isSo_46 xK_18 (by decide) ?_
      unfold isoF at o1 o2
      first | rw [if_pos (by omega)] at o1 o2 | rw [if_neg (by omega), if_pos (by omega)] at o1 o2 | rw [if_neg (by omega), if_neg (by omega)] at o1 o2
      first | exact o1 (decide_eq_true (by omega)) | exact o2 (decide_eq_false (by omega))
  refine lsp_c (fun g3 => ?_) (fun g3 => ?_)
  · refine jm_go (t := 47) (by decide) rfl ?_
    refine v_iload_n (n := 48) xB_18 dX2_isSo_47 rfl rfl ?_
    refine v_iload_n (n := 49) xB_18 dX2_isSo_48 rfl rfl ?_
    refine v_ic_ne (t := 56) (n := 52) xB_18 dX2_isSo_49 (by decide) rfl rfl (fun g4 => ?_) (fun g4 => ?_)
    · refine v_iconst (n := 57) xB_18 dX2_isSo_56 ⟨by decide, by decide⟩ rfl ?_
      refine v_ireturn1 xB_18 dX2_isSo_57 xK_18 (by decide) ?_
      unfold isoF at o1 o2
      first | rw [if_pos (by omega)] at o1 o2 | rw [if_neg (by omega), if_pos (by omega)] at o1 o2 | rw [if_neg (by omega), if_neg (by omega)] at o1 o2
      first | exact o1 (decide_eq_true (by omega)) | exact o2 (decide_eq_false (by omega))
    · refine v_iconst (n := 53) xB_18 dX2_isSo_52 ⟨by decide, by decide⟩ rfl ?_
      refine v_goto (t := 57) xB_18 dX2_isSo_53 (by decide) rfl ?_
      refine v_ireturn1 xB_18 dX2_isSo_57 xK_18 (by decide) ?_
      unfold isoF at o1 o2
      first | rw [if_pos (by omega)] at o1 o2 | rw [if_neg (by omega), if_pos (by omega)] at o1 o2 | rw [if_neg (by omega), if_neg (by omega)] at o1 o2
      first | exact o1 (decide_eq_true (by omega)) | exact o2 (decide_eq_false (by omega))
  refine lsp_n ?_
  refine jm_go (t := 58) (by decide) rfl ?_
  refine v_iload_n (n := 59) xB_18 dX2_isSo_58 rfl rfl ?_
  refine v_iload_n (n := 60) xB_18 dX2_isSo_59 rfl rfl ?_
  refine v_ic_le (t := 67) (n := 63) xB_18 dX2_isSo_60 (by decide) rfl rfl (fun g5 => ?_) (fun g5 => ?_)
  · refine v_iconst (n := 68) xB_18 dX2_isSo_67 ⟨by decide, by decide⟩ rfl ?_
    refine v_ireturn1 xB_18 dX2_isSo_68 xK_18 (by decide) ?_
    unfold isoF at o1 o2
    first | rw [if_pos (by omega)] at o1 o2 | rw [if_neg (by omega), if_pos (by omega)] at o1 o2 | rw [if_neg (by omega), if_neg (by omega)] at o1 o2
    first | exact o1 (decide_eq_true (by omega)) | exact o2 (decide_eq_false (by omega))
  · refine v_iconst (n := 64) xB_18 dX2_isSo_63 ⟨by decide, by decide⟩ rfl ?_
    refine v_goto (t := 68) xB_18 dX2_isSo_64 (by decide) rfl ?_
    refine v_ireturn1 xB_18 dX2_isSo_68 xK_18 (by decide) ?_
    unfold isoF at o1 o2
    first | rw [if_pos (by omega)] at o1 o2 | rw [if_neg (by omega), if_pos (by omega)] at o1 o2 | rw [if_neg (by omega), if_neg (by omega)] at o1 o2
    first | exact o1 (decide_eq_true (by omega)) | exact o2 (decide_eq_false (by omega))
set_option maxHeartbeats 2000000 in
theorem vk_holds {d : Nat} {a pg kd v n : Int} {S : List Int} {m : PM} {dy : List (Nat × Nat)} {L : Nat} {Q : Option PV → PS → Prop} (hd : 1 ≤ d) (ha : 129 ≤ a) (hsA : dyS dy a = (1, S.length)) (hpg : 0 ≤ pg) (hS : S.length ≤ 1000) (fin : List Bool) (o1 : fin.headD false = true → Q (some (.inl 1)) (m, (none, (dy, L)))) (o2 : fin.headD false = false → Q (some (.inl 0)) (m, (none, (dy, L)))) : ∀ (U : List Int) (st : List Bool) (wt i : Int) (x7 x8 x9 : Option PV), LA (m a) i U → i + U.length = S.length → 0 ≤ i → hg 31 U st.length → st.length ≤ 31 → wt = bv st → evS pg kd v n U st = fin → V d 16 (6, ([some (.inr (.inr a)), some (.inl pg), some (.inl kd), some (.inl v), some (.inl n), some (.inl (wt)), some (.inl (i)), x7, x8, x9], ([], (m, (none, (dy, L)))))) Q := by
  intro U
  induction U with
  | nil =>
    intro st wt i x7 x8 x9 hLA hk h0 hh hst hw he
    have he2 : st = fin := he
    subst he2
    rw [List.length_nil] at hk
    have hb := bv_31 hst
    have hm : bv st % 2 = b2i (st.headD false) := by
      cases st with
      | nil => rfl
      | cons b r => have := b2i_in b; show (b2i b + 2 * bv r) % 2 = b2i b; omega
    refine v_iload (n := 8) xB_16 dX2_holds_6 rfl rfl ?_
    refine v_aload_n (n := 9) xB_16 dX2_holds_8 rfl rfl ?_
    refine v_alen (n := 10) (lz := (S.length : Int)) xB_16 dX2_holds_9 (sh_dyn' ha hsA _ _) (by decide) rfl rfl ?_
    refine v_ic_ge_y (t := 125) xB_16 dX2_holds_10 (by decide) rfl (by first | omega | (simp only [sA_same, sA_s, ud_s, Int.reduceEq, if_true, if_false, ite_true, ite_false, ↓reduceIte, and_true, true_and, eq_self, Int.add_zero, Int.reduceAdd]; omega) | (simp (disch := omega) only [sA_same, sA_ne, ud_eq, ud_ne, Int.add_zero, Int.reduceAdd]; omega)) ?_
    refine v_iload (n := 127) xB_16 dX2_holds_125 rfl rfl ?_
    refine v_iconst (n := 128) xB_16 dX2_holds_127 ⟨by decide, by decide⟩ rfl ?_
    refine v_iand_e (n := 129) xB_16 dX2_holds_128 (z := wt % 2) (iA1 (by omega) (by omega)) rfl ?_
    refine v_if_eq (t := 136) (n := 132) xB_16 dX2_holds_129 (by decide) rfl rfl (fun g1 => ?_) (fun g1 => ?_)
    · refine v_iconst (n := 137) xB_16 dX2_holds_136 ⟨by decide, by decide⟩ rfl ?_
      refine v_ireturn1 xB_16 dX2_holds_137 xK_16 (by decide) ?_
      first | (refine o1 ?_; cases hq : st.headD false with
        | true => rfl
        | false => rw [hq] at hm; unfold b2i at hm; simp at hm; omega) | (refine o2 ?_; cases hq : st.headD false with
        | false => rfl
        | true => rw [hq] at hm; unfold b2i at hm; simp at hm; omega)
    · refine v_iconst (n := 133) xB_16 dX2_holds_132 ⟨by decide, by decide⟩ rfl ?_
      refine v_goto (t := 137) xB_16 dX2_holds_133 (by decide) rfl ?_
      refine v_ireturn1 xB_16 dX2_holds_137 xK_16 (by decide) ?_
      first | (refine o1 ?_; cases hq : st.headD false with
        | true => rfl
        | false => rw [hq] at hm; unfold b2i at hm; simp at hm; omega) | (refine o2 ?_; cases hq : st.headD false with
        | false => rfl
        | true => rw [hq] at hm; unfold b2i at hm; simp at hm; omega)
  | cons z U ih =>
    intro st wt i x7 x8 x9 hLA hk h0 hh hst hw he
    have hz : m a i = z := hLA.1
    have hLA2 := hLA.2
    have hb := bv_31 hst
    rw [List.length_cons] at hk
    by_cases e1 : z = -1
    · subst e1
      unfold hg at hh
      rw [if_pos rfl] at hh
      cases st with
      | nil => exact absurd hh.1 (by simp)
      | cons y r =>
        have hy := b2i_in y
        have hny : b2i (!y) = 1 - b2i y := by cases y <;> rfl
        have hbv : bv (y :: r) = b2i y + 2 * bv r := rfl
        refine v_iload (n := 8) xB_16 dX2_holds_6 rfl rfl ?_
        refine v_aload_n (n := 9) xB_16 dX2_holds_8 rfl rfl ?_
        refine v_alen (n := 10) (lz := (S.length : Int)) xB_16 dX2_holds_9 (sh_dyn' ha hsA _ _) (by decide) rfl rfl ?_
        refine v_ic_ge_n (n := 13) xB_16 dX2_holds_10 (by decide) rfl (by first | omega | (simp only [sA_same, sA_s, ud_s, Int.reduceEq, if_true, if_false, ite_true, ite_false, ↓reduceIte, and_true, true_and, eq_self, Int.add_zero, Int.reduceAdd]; omega) | (simp (disch := omega) only [sA_same, sA_ne, ud_eq, ud_ne, Int.add_zero, Int.reduceAdd]; omega)) ?_
        refine v_aload_n (n := 14) xB_16 dX2_holds_13 rfl rfl ?_
        refine v_iload (n := 16) xB_16 dX2_holds_14 rfl rfl ?_
        refine v_iaload (n := 17) (lz := (S.length : Int)) xB_16 dX2_holds_16 (sh_dyn' ha hsA _ _) rfl (by first | omega | (simp only [sA_same, sA_s, ud_s, Int.reduceEq, if_true, if_false, ite_true, ite_false, ↓reduceIte, and_true, true_and, eq_self, Int.add_zero, Int.reduceAdd]; omega) | (simp (disch := omega) only [sA_same, sA_ne, ud_eq, ud_ne, Int.add_zero, Int.reduceAdd]; omega)) rfl ?_
        refine v_istore7 (n := 19) xB_16 dX2_holds_17 rfl rfl ?_
        refine v_iload (n := 21) xB_16 dX2_holds_19 rfl rfl ?_
        refine v_iconst (n := 22) xB_16 dX2_holds_21 ⟨by decide, by decide⟩ rfl ?_
        refine v_iand (n := 23) xB_16 dX2_holds_22 rfl ?_
        refine v_istore8 (n := 25) xB_16 dX2_holds_23 rfl rfl ?_
        refine v_iload (n := 27) xB_16 dX2_holds_25 rfl rfl ?_
        refine v_iconst (n := 28) xB_16 dX2_holds_27 ⟨by decide, by decide⟩ rfl ?_
        refine v_ic_ne_n (n := 31) xB_16 dX2_holds_28 (by decide) rfl (by first | omega | (simp only [sA_same, sA_s, ud_s, Int.reduceEq, if_true, if_false, ite_true, ite_false, ↓reduceIte, and_true, true_and, eq_self, Int.add_zero, Int.reduceAdd]; omega) | (simp (disch := omega) only [sA_same, sA_ne, ud_eq, ud_ne, Int.add_zero, Int.reduceAdd]; omega)) ?_
        refine v_iload (n := 33) xB_16 dX2_holds_31 rfl rfl ?_
        refine v_iconst (n := 34) xB_16 dX2_holds_33 ⟨by decide, by decide⟩ rfl ?_
        refine v_ixor (n := 35) xB_16 dX2_holds_34 rfl ?_
        refine v_istore5 (n := 37) xB_16 dX2_holds_35 rfl rfl ?_
        refine v_goto (t := 119) xB_16 dX2_holds_37 (by decide) rfl ?_
        refine v_iinc6 (n := 122) xB_16 dX2_holds_119 rfl (by first | omega | (simp only [sA_same, sA_s, ud_s, Int.reduceEq, if_true, if_false, ite_true, ite_false, ↓reduceIte, and_true, true_and, eq_self, Int.add_zero, Int.reduceAdd]; omega) | (simp (disch := omega) only [sA_same, sA_ne, ud_eq, ud_ne, Int.add_zero, Int.reduceAdd]; omega)) rfl ?_
        refine v_goto (t := 6) xB_16 dX2_holds_122 (by decide) rfl ?_
        refine ih ((!y) :: r) _ _ _ _ _ hLA2 (by omega) (by omega) hh.2 (by simpa using hst) ?_ he
        rw [iX1 (by omega) (by omega)]
        show _ = b2i (!y) + 2 * bv r
        omega
    · by_cases e2 : z = -2 ∨ z = -3
      · unfold hg at hh
        rw [if_neg e1, if_pos e2] at hh
        cases st with
        | nil => exact absurd hh.1 (by simp)
        | cons y r =>
          cases r with
          | nil => exact absurd hh.1 (by simp)
          | cons x r =>
            have hy := b2i_in y
            have hx := b2i_in x
            have hbv : bv (y :: x :: r) = b2i y + 2 * (b2i x + 2 * bv r) := rfl
            have hr := bv_in r
            rw [List.length_cons, List.length_cons] at hst
            rcases e2 with e2 | e2
            · subst e2
              refine v_iload (n := 8) xB_16 dX2_holds_6 rfl rfl ?_
              refine v_aload_n (n := 9) xB_16 dX2_holds_8 rfl rfl ?_
              refine v_alen (n := 10) (lz := (S.length : Int)) xB_16 dX2_holds_9 (sh_dyn' ha hsA _ _) (by decide) rfl rfl ?_
              refine v_ic_ge_n (n := 13) xB_16 dX2_holds_10 (by decide) rfl (by first | omega | (simp only [sA_same, sA_s, ud_s, Int.reduceEq, if_true, if_false, ite_true, ite_false, ↓reduceIte, and_true, true_and, eq_self, Int.add_zero, Int.reduceAdd]; omega) | (simp (disch := omega) only [sA_same, sA_ne, ud_eq, ud_ne, Int.add_zero, Int.reduceAdd]; omega)) ?_
              refine v_aload_n (n := 14) xB_16 dX2_holds_13 rfl rfl ?_
              refine v_iload (n := 16) xB_16 dX2_holds_14 rfl rfl ?_
              refine v_iaload (n := 17) (lz := (S.length : Int)) xB_16 dX2_holds_16 (sh_dyn' ha hsA _ _) rfl (by first | omega | (simp only [sA_same, sA_s, ud_s, Int.reduceEq, if_true, if_false, ite_true, ite_false, ↓reduceIte, and_true, true_and, eq_self, Int.add_zero, Int.reduceAdd]; omega) | (simp (disch := omega) only [sA_same, sA_ne, ud_eq, ud_ne, Int.add_zero, Int.reduceAdd]; omega)) rfl ?_
              refine v_istore7 (n := 19) xB_16 dX2_holds_17 rfl rfl ?_
              refine v_iload (n := 21) xB_16 dX2_holds_19 rfl rfl ?_
              refine v_iconst (n := 22) xB_16 dX2_holds_21 ⟨by decide, by decide⟩ rfl ?_
              refine v_iand (n := 23) xB_16 dX2_holds_22 rfl ?_
              refine v_istore8 (n := 25) xB_16 dX2_holds_23 rfl rfl ?_
              refine v_iload (n := 27) xB_16 dX2_holds_25 rfl rfl ?_
              refine v_iconst (n := 28) xB_16 dX2_holds_27 ⟨by decide, by decide⟩ rfl ?_
              refine v_ic_ne_y (t := 40) xB_16 dX2_holds_28 (by decide) rfl (by first | omega | (simp only [sA_same, sA_s, ud_s, Int.reduceEq, if_true, if_false, ite_true, ite_false, ↓reduceIte, and_true, true_and, eq_self, Int.add_zero, Int.reduceAdd]; omega) | (simp (disch := omega) only [sA_same, sA_ne, ud_eq, ud_ne, Int.add_zero, Int.reduceAdd]; omega)) ?_
              refine v_iload (n := 42) xB_16 dX2_holds_40 rfl rfl ?_
              refine v_bipush (n := 44) xB_16 dX2_holds_42 ⟨by decide, by decide⟩ rfl ?_
              refine v_ic_ne_n (n := 47) xB_16 dX2_holds_44 (by decide) rfl (by first | omega | (simp only [sA_same, sA_s, ud_s, Int.reduceEq, if_true, if_false, ite_true, ite_false, ↓reduceIte, and_true, true_and, eq_self, Int.add_zero, Int.reduceAdd]; omega) | (simp (disch := omega) only [sA_same, sA_ne, ud_eq, ud_ne, Int.add_zero, Int.reduceAdd]; omega)) ?_
              refine v_iload (n := 49) xB_16 dX2_holds_47 rfl rfl ?_
              refine v_iconst (n := 50) xB_16 dX2_holds_49 ⟨by decide, by decide⟩ rfl ?_
              refine v_ishr (n := 51) (p := 2) xB_16 dX2_holds_50 (by decide) (by first | omega | (simp only [sA_same, sA_s, ud_s, Int.reduceEq, if_true, if_false, ite_true, ite_false, ↓reduceIte, and_true, true_and, eq_self, Int.add_zero, Int.reduceAdd]; omega) | (simp (disch := omega) only [sA_same, sA_ne, ud_eq, ud_ne, Int.add_zero, Int.reduceAdd]; omega)) rfl ?_
              refine v_iload (n := 53) xB_16 dX2_holds_51 rfl rfl ?_
              refine v_bipush (n := 55) xB_16 dX2_holds_53 ⟨by decide, by decide⟩ rfl ?_
              refine v_ior (n := 56) xB_16 dX2_holds_55 rfl ?_
              refine v_iand (n := 57) xB_16 dX2_holds_56 rfl ?_
              refine v_istore5 (n := 59) xB_16 dX2_holds_57 rfl rfl ?_
              refine v_goto (t := 119) xB_16 dX2_holds_59 (by decide) rfl ?_
              refine v_iinc6 (n := 122) xB_16 dX2_holds_119 rfl (by first | omega | (simp only [sA_same, sA_s, ud_s, Int.reduceEq, if_true, if_false, ite_true, ite_false, ↓reduceIte, and_true, true_and, eq_self, Int.add_zero, Int.reduceAdd]; omega) | (simp (disch := omega) only [sA_same, sA_ne, ud_eq, ud_ne, Int.add_zero, Int.reduceAdd]; omega)) rfl ?_
              refine v_goto (t := 6) xB_16 dX2_holds_122 (by decide) rfl ?_
              refine ih ((x && y) :: r) _ _ _ _ _ hLA2 (by omega) (by omega) hh.2 (by simp only [List.length_cons]; omega) ?_ he
              rw [iA1 (by omega) (by omega)]
              cases y with
              | false => rw [show wt % 2 = 0 by have : b2i false = 0 := rfl; omega, iO_m2_0, iAm2 (by omega) (by omega)]; show _ = b2i (x && false) + 2 * bv r; rw [Bool.and_false]; have : b2i false = 0 := rfl; omega
              | true => rw [show wt % 2 = 1 by have : b2i true = 1 := rfl; omega, iO_m2_1, iAm1 (by omega) (by omega)]; show _ = b2i (x && true) + 2 * bv r; rw [Bool.and_true]; have : b2i true = 1 := rfl; omega
            · subst e2
              refine v_iload (n := 8) xB_16 dX2_holds_6 rfl rfl ?_
              refine v_aload_n (n := 9) xB_16 dX2_holds_8 rfl rfl ?_
              refine v_alen (n := 10) (lz := (S.length : Int)) xB_16 dX2_holds_9 (sh_dyn' ha hsA _ _) (by decide) rfl rfl ?_
              refine v_ic_ge_n (n := 13) xB_16 dX2_holds_10 (by decide) rfl (by first | omega | (simp only [sA_same, sA_s, ud_s, Int.reduceEq, if_true, if_false, ite_true, ite_false, ↓reduceIte, and_true, true_and, eq_self, Int.add_zero, Int.reduceAdd]; omega) | (simp (disch := omega) only [sA_same, sA_ne, ud_eq, ud_ne, Int.add_zero, Int.reduceAdd]; omega)) ?_
              refine v_aload_n (n := 14) xB_16 dX2_holds_13 rfl rfl ?_
              refine v_iload (n := 16) xB_16 dX2_holds_14 rfl rfl ?_
              refine v_iaload (n := 17) (lz := (S.length : Int)) xB_16 dX2_holds_16 (sh_dyn' ha hsA _ _) rfl (by first | omega | (simp only [sA_same, sA_s, ud_s, Int.reduceEq, if_true, if_false, ite_true, ite_false, ↓reduceIte, and_true, true_and, eq_self, Int.add_zero, Int.reduceAdd]; omega) | (simp (disch := omega) only [sA_same, sA_ne, ud_eq, ud_ne, Int.add_zero, Int.reduceAdd]; omega)) rfl ?_
              refine v_istore7 (n := 19) xB_16 dX2_holds_17 rfl rfl ?_
              refine v_iload (n := 21) xB_16 dX2_holds_19 rfl rfl ?_
              refine v_iconst (n := 22) xB_16 dX2_holds_21 ⟨by decide, by decide⟩ rfl ?_
              refine v_iand (n := 23) xB_16 dX2_holds_22 rfl ?_
              refine v_istore8 (n := 25) xB_16 dX2_holds_23 rfl rfl ?_
              refine v_iload (n := 27) xB_16 dX2_holds_25 rfl rfl ?_
              refine v_iconst (n := 28) xB_16 dX2_holds_27 ⟨by decide, by decide⟩ rfl ?_
              refine v_ic_ne_y (t := 40) xB_16 dX2_holds_28 (by decide) rfl (by first | omega | (simp only [sA_same, sA_s, ud_s, Int.reduceEq, if_true, if_false, ite_true, ite_false, ↓reduceIte, and_true, true_and, eq_self, Int.add_zero, Int.reduceAdd]; omega) | (simp (disch := omega) only [sA_same, sA_ne, ud_eq, ud_ne, Int.add_zero, Int.reduceAdd]; omega)) ?_
              refine v_iload (n := 42) xB_16 dX2_holds_40 rfl rfl ?_
              refine v_bipush (n := 44) xB_16 dX2_holds_42 ⟨by decide, by decide⟩ rfl ?_
              refine v_ic_ne_y (t := 62) xB_16 dX2_holds_44 (by decide) rfl (by first | omega | (simp only [sA_same, sA_s, ud_s, Int.reduceEq, if_true, if_false, ite_true, ite_false, ↓reduceIte, and_true, true_and, eq_self, Int.add_zero, Int.reduceAdd]; omega) | (simp (disch := omega) only [sA_same, sA_ne, ud_eq, ud_ne, Int.add_zero, Int.reduceAdd]; omega)) ?_
              refine v_iload (n := 64) xB_16 dX2_holds_62 rfl rfl ?_
              refine v_bipush (n := 66) xB_16 dX2_holds_64 ⟨by decide, by decide⟩ rfl ?_
              refine v_ic_ne_n (n := 69) xB_16 dX2_holds_66 (by decide) rfl (by first | omega | (simp only [sA_same, sA_s, ud_s, Int.reduceEq, if_true, if_false, ite_true, ite_false, ↓reduceIte, and_true, true_and, eq_self, Int.add_zero, Int.reduceAdd]; omega) | (simp (disch := omega) only [sA_same, sA_ne, ud_eq, ud_ne, Int.add_zero, Int.reduceAdd]; omega)) ?_
              refine v_iload (n := 71) xB_16 dX2_holds_69 rfl rfl ?_
              refine v_iconst (n := 72) xB_16 dX2_holds_71 ⟨by decide, by decide⟩ rfl ?_
              refine v_ishr (n := 73) (p := 2) xB_16 dX2_holds_72 (by decide) (by first | omega | (simp only [sA_same, sA_s, ud_s, Int.reduceEq, if_true, if_false, ite_true, ite_false, ↓reduceIte, and_true, true_and, eq_self, Int.add_zero, Int.reduceAdd]; omega) | (simp (disch := omega) only [sA_same, sA_ne, ud_eq, ud_ne, Int.add_zero, Int.reduceAdd]; omega)) rfl ?_
              refine v_iload (n := 75) xB_16 dX2_holds_73 rfl rfl ?_
              refine v_ior (n := 76) xB_16 dX2_holds_75 rfl ?_
              refine v_istore5 (n := 78) xB_16 dX2_holds_76 rfl rfl ?_
              refine v_goto (t := 119) xB_16 dX2_holds_78 (by decide) rfl ?_
              refine v_iinc6 (n := 122) xB_16 dX2_holds_119 rfl (by first | omega | (simp only [sA_same, sA_s, ud_s, Int.reduceEq, if_true, if_false, ite_true, ite_false, ↓reduceIte, and_true, true_and, eq_self, Int.add_zero, Int.reduceAdd]; omega) | (simp (disch := omega) only [sA_same, sA_ne, ud_eq, ud_ne, Int.add_zero, Int.reduceAdd]; omega)) rfl ?_
              refine v_goto (t := 6) xB_16 dX2_holds_122 (by decide) rfl ?_
              refine ih ((x || y) :: r) _ _ _ _ _ hLA2 (by omega) (by omega) hh.2 (by simp only [List.length_cons]; omega) ?_ he
              rw [iA1 (by omega) (by omega)]
              cases y with
              | false => rw [show wt % 2 = 0 by have : b2i false = 0 := rfl; omega, iO0 (by omega) (by omega)]; show _ = b2i (x || false) + 2 * bv r; rw [Bool.or_false]; have : b2i false = 0 := rfl; omega
              | true => rw [show wt % 2 = 1 by have : b2i true = 1 := rfl; omega, iO1 (by omega) (by omega)]; show _ = b2i (x || true) + 2 * bv r; rw [Bool.or_true]; have : b2i true = 1 := rfl; omega
      · unfold hg at hh
        rw [if_neg e1, if_neg e2] at hh
        have q1 : evS pg kd v n (z :: U) st = evS pg kd v n U (ev1 z pg kd v n :: st) := by
          show evS pg kd v n U (eop z pg kd v n st) = _
          unfold eop
          rw [if_neg e1, if_neg (by omega), if_neg (by omega)]
        rw [q1] at he
        have hb2 := bv_30 (st := st) (by omega)
        refine v_iload (n := 8) xB_16 dX2_holds_6 rfl rfl ?_
        refine v_aload_n (n := 9) xB_16 dX2_holds_8 rfl rfl ?_
        refine v_alen (n := 10) (lz := (S.length : Int)) xB_16 dX2_holds_9 (sh_dyn' ha hsA _ _) (by decide) rfl rfl ?_
        refine v_ic_ge_n (n := 13) xB_16 dX2_holds_10 (by decide) rfl (by first | omega | (simp only [sA_same, sA_s, ud_s, Int.reduceEq, if_true, if_false, ite_true, ite_false, ↓reduceIte, and_true, true_and, eq_self, Int.add_zero, Int.reduceAdd]; omega) | (simp (disch := omega) only [sA_same, sA_ne, ud_eq, ud_ne, Int.add_zero, Int.reduceAdd]; omega)) ?_
        refine v_aload_n (n := 14) xB_16 dX2_holds_13 rfl rfl ?_
        refine v_iload (n := 16) xB_16 dX2_holds_14 rfl rfl ?_
        refine v_iaload (n := 17) (lz := (S.length : Int)) xB_16 dX2_holds_16 (sh_dyn' ha hsA _ _) rfl (by first | omega | (simp only [sA_same, sA_s, ud_s, Int.reduceEq, if_true, if_false, ite_true, ite_false, ↓reduceIte, and_true, true_and, eq_self, Int.add_zero, Int.reduceAdd]; omega) | (simp (disch := omega) only [sA_same, sA_ne, ud_eq, ud_ne, Int.add_zero, Int.reduceAdd]; omega)) rfl ?_
        refine v_istore7 (n := 19) xB_16 dX2_holds_17 rfl rfl ?_
        refine v_iload (n := 21) xB_16 dX2_holds_19 rfl rfl ?_
        refine v_iconst (n := 22) xB_16 dX2_holds_21 ⟨by decide, by decide⟩ rfl ?_
        refine v_iand (n := 23) xB_16 dX2_holds_22 rfl ?_
        refine v_istore8 (n := 25) xB_16 dX2_holds_23 rfl rfl ?_
        refine v_iload (n := 27) xB_16 dX2_holds_25 rfl rfl ?_
        refine v_iconst (n := 28) xB_16 dX2_holds_27 ⟨by decide, by decide⟩ rfl ?_
        refine v_ic_ne_y (t := 40) xB_16 dX2_holds_28 (by decide) rfl (by first | omega | (simp only [sA_same, sA_s, ud_s, Int.reduceEq, if_true, if_false, ite_true, ite_false, ↓reduceIte, and_true, true_and, eq_self, Int.add_zero, Int.reduceAdd]; omega) | (simp (disch := omega) only [sA_same, sA_ne, ud_eq, ud_ne, Int.add_zero, Int.reduceAdd]; omega)) ?_
        refine v_iload (n := 42) xB_16 dX2_holds_40 rfl rfl ?_
        refine v_bipush (n := 44) xB_16 dX2_holds_42 ⟨by decide, by decide⟩ rfl ?_
        refine v_ic_ne_y (t := 62) xB_16 dX2_holds_44 (by decide) rfl (by first | omega | (simp only [sA_same, sA_s, ud_s, Int.reduceEq, if_true, if_false, ite_true, ite_false, ↓reduceIte, and_true, true_and, eq_self, Int.add_zero, Int.reduceAdd]; omega) | (simp (disch := omega) only [sA_same, sA_ne, ud_eq, ud_ne, Int.add_zero, Int.reduceAdd]; omega)) ?_
        refine v_iload (n := 64) xB_16 dX2_holds_62 rfl rfl ?_
        refine v_bipush (n := 66) xB_16 dX2_holds_64 ⟨by decide, by decide⟩ rfl ?_
        refine v_ic_ne_y (t := 81) xB_16 dX2_holds_66 (by decide) rfl (by first | omega | (simp only [sA_same, sA_s, ud_s, Int.reduceEq, if_true, if_false, ite_true, ite_false, ↓reduceIte, and_true, true_and, eq_self, Int.add_zero, Int.reduceAdd]; omega) | (simp (disch := omega) only [sA_same, sA_ne, ud_eq, ud_ne, Int.add_zero, Int.reduceAdd]; omega)) ?_
        refine v_iload (n := 83) xB_16 dX2_holds_81 rfl rfl ?_
        refine v_sipush (n := 86) xB_16 dX2_holds_83 ⟨by decide, by decide⟩ rfl ?_
        refine v_idiv (n := 87) xB_16 dX2_holds_86 (by first | omega | (simp only [sA_same, sA_s, ud_s, Int.reduceEq, if_true, if_false, ite_true, ite_false, ↓reduceIte, and_true, true_and, eq_self, Int.add_zero, Int.reduceAdd]; omega) | (simp (disch := omega) only [sA_same, sA_ne, ud_eq, ud_ne, Int.add_zero, Int.reduceAdd]; omega)) rfl ?_
        refine v_iload_n (n := 88) xB_16 dX2_holds_87 rfl rfl ?_
        refine v_iload_n (n := 89) xB_16 dX2_holds_88 rfl rfl ?_
        refine v_iload_n (n := 90) xB_16 dX2_holds_89 rfl rfl ?_
        refine v_iload (n := 92) xB_16 dX2_holds_90 rfl rfl ?_
        refine v_call_s (n := 95) xB_16 dX2_holds_92 xO_16 sp_2_29 (Or.inl rfl) iv_2_29 rfl rfl rfl rfl ?_
        refine k_value (by omega) (by first | omega | (simp only [sA_same, sA_s, ud_s, Int.reduceEq, if_true, if_false, ite_true, ite_false, ↓reduceIte, and_true, true_and, eq_self, Int.add_zero, Int.reduceAdd]; omega) | (simp (disch := omega) only [sA_same, sA_ne, ud_eq, ud_ne, Int.add_zero, Int.reduceAdd]; omega)) ?_
        refine v_istore9 (n := 97) xB_16 dX2_holds_95 rfl rfl ?_
        refine v_iload (n := 99) xB_16 dX2_holds_97 rfl rfl ?_
        refine v_iconst (n := 100) xB_16 dX2_holds_99 ⟨by decide, by decide⟩ rfl ?_
        refine v_ishl (n := 101) (p := 2) xB_16 dX2_holds_100 (by decide) (by first | omega | (simp only [sA_same, sA_s, ud_s, Int.reduceEq, if_true, if_false, ite_true, ite_false, ↓reduceIte, and_true, true_and, eq_self, Int.add_zero, Int.reduceAdd]; omega) | (simp (disch := omega) only [sA_same, sA_ne, ud_eq, ud_ne, Int.add_zero, Int.reduceAdd]; omega)) rfl ?_
        refine v_iload (n := 103) xB_16 dX2_holds_101 rfl rfl ?_
        refine v_iload (n := 105) xB_16 dX2_holds_103 rfl rfl ?_
        refine v_call_s (n := 108) xB_16 dX2_holds_105 xO_16 sp_2_33 (Or.inl rfl) iv_2_33 rfl rfl rfl rfl ?_
        refine k_isSo (by omega) (by first | omega | (simp only [sA_same, sA_s, ud_s, Int.reduceEq, if_true, if_false, ite_true, ite_false, ↓reduceIte, and_true, true_and, eq_self, Int.add_zero, Int.reduceAdd]; omega) | (simp (disch := omega) only [sA_same, sA_ne, ud_eq, ud_ne, Int.add_zero, Int.reduceAdd]; omega)) (fun gISO => ?_) (fun gISO => ?_)
        · refine v_if_eq_n (n := 111) xB_16 dX2_holds_108 (by decide) rfl (by decide) ?_
          refine v_iconst (n := 112) xB_16 dX2_holds_111 ⟨by decide, by decide⟩ rfl ?_
          refine v_goto (t := 116) xB_16 dX2_holds_112 (by decide) rfl ?_
          refine v_ior (n := 117) xB_16 dX2_holds_116 rfl ?_
          refine v_istore5 (n := 119) xB_16 dX2_holds_117 rfl rfl ?_
          refine v_iinc6 (n := 122) xB_16 dX2_holds_119 rfl (by first | omega | (simp only [sA_same, sA_s, ud_s, Int.reduceEq, if_true, if_false, ite_true, ite_false, ↓reduceIte, and_true, true_and, eq_self, Int.add_zero, Int.reduceAdd]; omega) | (simp (disch := omega) only [sA_same, sA_ne, ud_eq, ud_ne, Int.add_zero, Int.reduceAdd]; omega)) rfl ?_
          refine v_goto (t := 6) xB_16 dX2_holds_122 (by decide) rfl ?_
          rw [hz, ← ev1_iso] at gISO
          refine ih (ev1 z pg kd v n :: st) _ _ _ _ _ hLA2 (by omega) (by omega) hh.2.2.2 (by simp only [List.length_cons]; omega) ?_ he
          first | rw [iO1 (by omega) (by omega)] | rw [iO0 (by omega) (by omega)]
          show _ = b2i (ev1 z pg kd v n) + 2 * bv st
          rw [gISO]
          first | (have : b2i true = 1 := rfl; omega) | (have : b2i false = 0 := rfl; omega)
        · refine v_if_eq_y (t := 115) xB_16 dX2_holds_108 (by decide) rfl (by decide) ?_
          refine v_iconst (n := 116) xB_16 dX2_holds_115 ⟨by decide, by decide⟩ rfl ?_
          refine v_ior (n := 117) xB_16 dX2_holds_116 rfl ?_
          refine v_istore5 (n := 119) xB_16 dX2_holds_117 rfl rfl ?_
          refine v_iinc6 (n := 122) xB_16 dX2_holds_119 rfl (by first | omega | (simp only [sA_same, sA_s, ud_s, Int.reduceEq, if_true, if_false, ite_true, ite_false, ↓reduceIte, and_true, true_and, eq_self, Int.add_zero, Int.reduceAdd]; omega) | (simp (disch := omega) only [sA_same, sA_ne, ud_eq, ud_ne, Int.add_zero, Int.reduceAdd]; omega)) rfl ?_
          refine v_goto (t := 6) xB_16 dX2_holds_122 (by decide) rfl ?_
          rw [hz, ← ev1_iso] at gISO
          refine ih (ev1 z pg kd v n :: st) _ _ _ _ _ hLA2 (by omega) (by omega) hh.2.2.2 (by simp only [List.length_cons]; omega) ?_ he
          first | rw [iO1 (by omega) (by omega)] | rw [iO0 (by omega) (by omega)]
          show _ = b2i (ev1 z pg kd v n) + 2 * bv st
          rw [gISO]
          first | (have : b2i true = 1 := rfl; omega) | (have : b2i false = 0 := rfl; omega)
set_option maxHeartbeats 1000000 in
theorem k_holds {d : Nat} {a pg kd v n : Int} {S : List Int} {m : PM} {dy : List (Nat × Nat)} {L : Nat} {Q : Option PV → PS → Prop} (hd : 2 ≤ d) (ha : 129 ≤ a) (hsA : dyS dy a = (1, S.length)) (hpg : 0 ≤ pg) (hS : S.length ≤ 1000) (hLA : LA (m a) 0 S) (hH : hg 31 S 0) (o1 : (vS pg kd v n S = true) → Q (some (.inl 1)) (m, (none, (dy, L)))) (o2 : (vS pg kd v n S = false) → Q (some (.inl 0)) (m, (none, (dy, L)))) : C d 16 [.inr (.inr a), .inl pg, .inl kd, .inl v, .inl n] (m, (none, (dy, L))) Q := by
  refine C_go (k := 1) hd xL_16 (fun d hd => ?_)
  show V d 16 (0, ([some (.inr (.inr a)), some (.inl pg), some (.inl kd), some (.inl v), some (.inl n), none, none, none, none, none], ([], (m, (none, (dy, L)))))) Q
  refine v_iconst (n := 1) xB_16 dX2_holds_0 ⟨by decide, by decide⟩ rfl ?_
  refine v_istore5 (n := 3) xB_16 dX2_holds_1 rfl rfl ?_
  refine v_iconst (n := 4) xB_16 dX2_holds_3 ⟨by decide, by decide⟩ rfl ?_
  refine v_istore6 (n := 6) xB_16 dX2_holds_4 rfl rfl ?_
  refine vk_holds (by omega) ha hsA hpg hS _ o1 o2 S [] 0 0 _ _ _ hLA (by omega) (by omega) hH (by simp) rfl rfl
