/-! The reference: a sheet printed, put out. -/
theorem put_ins (m : PM) (F G H : Int → Int) : setA (setA (setA m 81 F) 97 G) 100 H = setA (setA (setA (setA (setA m 81 F) 96 (m 96)) 97 G) 99 (m 99)) 100 H := by
  funext a
  simp only [sA_s]
  (repeat' split) <;> first | rfl | omega | (subst_vars; rfl)
def moF (k x : Int) : Int := if k = 6 then x else 0
def r9 (f : Int → Int) : Prop := ∀ k, 0 ≤ f k ∧ f k ≤ 9
set_option maxHeartbeats 1000000 in
theorem c_prints {d : Nat} {s p b : Int} {m : PM} {dy : List (Nat × Nat)} {L : Nat} {Q : Option PV → PS → Prop} (hd : 1 ≤ d) (hs : 0 ≤ s ∧ s < 12) (hpg : 0 ≤ p ∧ p < 128) (h01 : b = 0 ∨ b = 1) (h30 : 0 ≤ m 81 30 ∧ m 81 30 ≤ 100) (hb : bl (m 99)) (hp : pgs (m 96)) (o1 : ∀ sd dn : Int → Int, bl dn → pgs sd → (∀ x, pkA sd dn x = if x = s then wpF (pkA (m 96) (m 99) s) p (decide (b = 1)) else pkA (m 96) (m 99) x) → Q (none) (setA (setA (setA m 81 (ud (m 81) 30 (m 81 30 + 1))) 96 sd) 99 dn, (none, (dy, L)))) : C d 164 [.inr (.inr 81), .inl s, .inl p, .inl b] (m, (none, (dy, L))) Q := by
  refine C_go (k := 0) hd xL_164 (fun d hd => ?_)
  show V d 164 (0, ([some (.inr (.inr 81)), some (.inl s), some (.inl p), some (.inl b), none], ([], (m, (none, (dy, L)))))) Q
  have q1 := hp (2 * s)
  have q2 := hb (2 * s)
  refine v_aload_n (n := 1) xB_164 dX11_prints_0 rfl rfl ?_
  refine v_gf_s (n := 4) (kz := 23) xB_164 dX11_prints_1 xO_164 fl_11_81 fg_11_23 (sh_81 _ _ _) rfl st_81_23 rfl ?_
  refine v_iconst (n := 5) xB_164 dX11_prints_4 ⟨by decide, by decide⟩ rfl ?_
  refine v_iload_n (n := 6) xB_164 dX11_prints_5 rfl rfl ?_
  refine v_imul (n := 7) xB_164 dX11_prints_6 (by first | omega | (simp only [sA_same, sA_s, ud_s, Int.reduceEq, if_true, if_false, ite_true, ite_false, ↓reduceIte, and_true, true_and, eq_self, Int.add_zero, Int.reduceAdd]; omega)) rfl ?_
  refine v_iaload (n := 8) (lz := 24) xB_164 dX11_prints_7 (sh_96 _ _ _) rfl (by first | omega | (simp only [sA_same, sA_s, ud_s, Int.reduceEq, if_true, if_false, ite_true, ite_false, ↓reduceIte, and_true, true_and, eq_self, Int.add_zero, Int.reduceAdd]; omega)) rfl ?_
  refine v_if_ne (t := 15) (n := 11) xB_164 dX11_prints_8 (by decide) rfl rfl (fun g1 => ?_) (fun g1 => ?_)
  · (try simp (disch := omega) only [sA_same, sA_ne, sA_sA, sA_sr, sB_s, ud_eq, ud_ne, ud_ud, ud_sr, uB_s, Int.add_zero, Int.reduceAdd] at g1)
    refine v_iconst (n := 16) xB_164 dX11_prints_15 ⟨by decide, by decide⟩ rfl ?_
    refine v_istore4 (n := 18) xB_164 dX11_prints_16 rfl rfl ?_
    refine v_aload_n (n := 19) xB_164 dX11_prints_18 rfl rfl ?_
    refine v_gf_s (n := 22) (kz := 23) xB_164 dX11_prints_19 xO_164 fl_11_81 fg_11_23 (sh_81 _ _ _) rfl st_81_23 rfl ?_
    refine v_iconst (n := 23) xB_164 dX11_prints_22 ⟨by decide, by decide⟩ rfl ?_
    refine v_iload_n (n := 24) xB_164 dX11_prints_23 rfl rfl ?_
    refine v_imul (n := 25) xB_164 dX11_prints_24 (by first | omega | (simp only [sA_same, sA_s, ud_s, Int.reduceEq, if_true, if_false, ite_true, ite_false, ↓reduceIte, and_true, true_and, eq_self, Int.add_zero, Int.reduceAdd]; omega)) rfl ?_
    refine v_iload (n := 27) xB_164 dX11_prints_25 rfl rfl ?_
    refine v_if_eq_y (t := 34) xB_164 dX11_prints_27 (by decide) rfl (by decide) ?_
    refine v_bipush (n := 36) xB_164 dX11_prints_34 ⟨by decide, by decide⟩ rfl ?_
    refine v_iastore (n := 37) (lz := 24) xB_164 dX11_prints_36 (sh_96 _ _ _) (by decide) rfl (by first | omega | (simp only [sA_same, sA_s, ud_s, Int.reduceEq, if_true, if_false, ite_true, ite_false, ↓reduceIte, and_true, true_and, eq_self, Int.add_zero, Int.reduceAdd]; omega)) rfl ?_
    (try simp (disch := omega) only [sA_same, sA_ne, sA_sA, sA_sr, sB_s, ud_eq, ud_ne, ud_ud, ud_sr, uB_s, Int.add_zero, Int.reduceAdd])
    refine v_aload_n (n := 38) xB_164 dX11_prints_37 rfl rfl ?_
    refine v_gf_s (n := 41) (kz := 26) xB_164 dX11_prints_38 xO_164 fl_11_90 fg_11_26 (sh_81 _ _ _) rfl st_81_26 rfl ?_
    refine v_iconst (n := 42) xB_164 dX11_prints_41 ⟨by decide, by decide⟩ rfl ?_
    refine v_iload_n (n := 43) xB_164 dX11_prints_42 rfl rfl ?_
    refine v_imul (n := 44) xB_164 dX11_prints_43 (by first | omega | (simp only [sA_same, sA_s, ud_s, Int.reduceEq, if_true, if_false, ite_true, ite_false, ↓reduceIte, and_true, true_and, eq_self, Int.add_zero, Int.reduceAdd]; omega)) rfl ?_
    refine v_iload (n := 46) xB_164 dX11_prints_44 rfl rfl ?_
    refine v_if_eq_y (t := 57) xB_164 dX11_prints_46 (by decide) rfl (by decide) ?_
    refine v_iconst (n := 58) xB_164 dX11_prints_57 ⟨by decide, by decide⟩ rfl ?_
    refine v_bastore01 (n := 59) (lz := 24) xB_164 dX11_prints_58 (sh_99 _ _ _) (by decide) rfl (by first | omega | (simp only [sA_same, sA_s, ud_s, Int.reduceEq, if_true, if_false, ite_true, ite_false, ↓reduceIte, and_true, true_and, eq_self, Int.add_zero, Int.reduceAdd]; omega)) (by decide) rfl ?_
    (try simp (disch := omega) only [sA_same, sA_ne, sA_sA, sA_sr, sB_s, ud_eq, ud_ne, ud_ud, ud_sr, uB_s, Int.add_zero, Int.reduceAdd])
    refine v_aload_n (n := 60) xB_164 dX11_prints_59 rfl rfl ?_
    refine v_dup (n := 61) xB_164 dX11_prints_60 rfl rfl ?_
    refine v_gf_i (n := 64) (kz := 30) xB_164 dX11_prints_61 xO_164 fl_11_102 fg_11_30 rfl (sh_81 _ _ _) rfl rfl ?_
    refine v_iconst (n := 65) xB_164 dX11_prints_64 ⟨by decide, by decide⟩ rfl ?_
    refine v_iadd (n := 66) xB_164 dX11_prints_65 (by first | omega | (simp only [sA_same, sA_s, ud_s, Int.reduceEq, if_true, if_false, ite_true, ite_false, ↓reduceIte, and_true, true_and, eq_self, Int.add_zero, Int.reduceAdd]; omega)) rfl ?_
    refine v_pf_i (n := 69) (kz := 30) xB_164 dX11_prints_66 xO_164 fl_11_102 fg_11_30 (Or.inl fn_11_30) (sh_81 _ _ _) (by decide) rfl rfl ?_
    (try simp (disch := omega) only [sA_same, sA_ne, sA_sA, sA_sr, sB_s, ud_eq, ud_ne, ud_ud, ud_sr, uB_s, Int.add_zero, Int.reduceAdd])
    refine v_return xB_164 dX11_prints_69 xK_164 ?_
    (try simp (disch := omega) only [sA_same, sA_ne, sA_sA, sA_sr, sB_s, ud_eq, ud_ne, ud_ud, ud_sr, uB_s, Int.add_zero, Int.reduceAdd])
    refine o1 _ _ (bl_ud hb (by decide) _) (pgs_ud hp (by omega) _) (fun x => ?_)
    rw [pkA_s, pkA_s, pkA_s]
    by_cases hx : x = s
    · subst hx
      rw [if_pos rfl]
      simp (disch := omega) only [ud_eq, ud_ne]
      first | (rw [wp_pk1 _ (by omega) (hb _) (hp _) (hb _)]; done) | (rw [show m 96 (2 * x) = 0 by omega, wp_pk0 _ (hb _) (hp _) (hb _)]; first | (rw [show b = 1 by omega]; rfl) | (rw [show b = 0 by omega]; rfl))
    · rw [if_neg hx]
      simp (disch := omega) only [ud_ne]
  · (try simp (disch := omega) only [sA_same, sA_ne, sA_sA, sA_sr, sB_s, ud_eq, ud_ne, ud_ud, ud_sr, uB_s, Int.add_zero, Int.reduceAdd] at g1)
    refine v_iconst (n := 12) xB_164 dX11_prints_11 ⟨by decide, by decide⟩ rfl ?_
    refine v_goto (t := 16) xB_164 dX11_prints_12 (by decide) rfl ?_
    refine v_istore4 (n := 18) xB_164 dX11_prints_16 rfl rfl ?_
    refine v_aload_n (n := 19) xB_164 dX11_prints_18 rfl rfl ?_
    refine v_gf_s (n := 22) (kz := 23) xB_164 dX11_prints_19 xO_164 fl_11_81 fg_11_23 (sh_81 _ _ _) rfl st_81_23 rfl ?_
    refine v_iconst (n := 23) xB_164 dX11_prints_22 ⟨by decide, by decide⟩ rfl ?_
    refine v_iload_n (n := 24) xB_164 dX11_prints_23 rfl rfl ?_
    refine v_imul (n := 25) xB_164 dX11_prints_24 (by first | omega | (simp only [sA_same, sA_s, ud_s, Int.reduceEq, if_true, if_false, ite_true, ite_false, ↓reduceIte, and_true, true_and, eq_self, Int.add_zero, Int.reduceAdd]; omega)) rfl ?_
    refine v_iload (n := 27) xB_164 dX11_prints_25 rfl rfl ?_
    refine v_if_eq_n (n := 30) xB_164 dX11_prints_27 (by decide) rfl (by decide) ?_
    refine v_iload_n (n := 31) xB_164 dX11_prints_30 rfl rfl ?_
    refine v_goto (t := 36) xB_164 dX11_prints_31 (by decide) rfl ?_
    refine v_iastore (n := 37) (lz := 24) xB_164 dX11_prints_36 (sh_96 _ _ _) (by decide) rfl (by first | omega | (simp only [sA_same, sA_s, ud_s, Int.reduceEq, if_true, if_false, ite_true, ite_false, ↓reduceIte, and_true, true_and, eq_self, Int.add_zero, Int.reduceAdd]; omega)) rfl ?_
    (try simp (disch := omega) only [sA_same, sA_ne, sA_sA, sA_sr, sB_s, ud_eq, ud_ne, ud_ud, ud_sr, uB_s, Int.add_zero, Int.reduceAdd])
    refine v_aload_n (n := 38) xB_164 dX11_prints_37 rfl rfl ?_
    refine v_gf_s (n := 41) (kz := 26) xB_164 dX11_prints_38 xO_164 fl_11_90 fg_11_26 (sh_81 _ _ _) rfl st_81_26 rfl ?_
    refine v_iconst (n := 42) xB_164 dX11_prints_41 ⟨by decide, by decide⟩ rfl ?_
    refine v_iload_n (n := 43) xB_164 dX11_prints_42 rfl rfl ?_
    refine v_imul (n := 44) xB_164 dX11_prints_43 (by first | omega | (simp only [sA_same, sA_s, ud_s, Int.reduceEq, if_true, if_false, ite_true, ite_false, ↓reduceIte, and_true, true_and, eq_self, Int.add_zero, Int.reduceAdd]; omega)) rfl ?_
    refine v_iload (n := 46) xB_164 dX11_prints_44 rfl rfl ?_
    refine v_if_eq_n (n := 49) xB_164 dX11_prints_46 (by decide) rfl (by decide) ?_
    refine v_iload_n (n := 50) xB_164 dX11_prints_49 rfl rfl ?_
    refine v_if_eq (t := 57) (n := 53) xB_164 dX11_prints_50 (by decide) rfl rfl (fun g2 => ?_) (fun g2 => ?_)
    · (try simp (disch := omega) only [sA_same, sA_ne, sA_sA, sA_sr, sB_s, ud_eq, ud_ne, ud_ud, ud_sr, uB_s, Int.add_zero, Int.reduceAdd] at g2)
      refine v_iconst (n := 58) xB_164 dX11_prints_57 ⟨by decide, by decide⟩ rfl ?_
      refine v_bastore01 (n := 59) (lz := 24) xB_164 dX11_prints_58 (sh_99 _ _ _) (by decide) rfl (by first | omega | (simp only [sA_same, sA_s, ud_s, Int.reduceEq, if_true, if_false, ite_true, ite_false, ↓reduceIte, and_true, true_and, eq_self, Int.add_zero, Int.reduceAdd]; omega)) (by decide) rfl ?_
      (try simp (disch := omega) only [sA_same, sA_ne, sA_sA, sA_sr, sB_s, ud_eq, ud_ne, ud_ud, ud_sr, uB_s, Int.add_zero, Int.reduceAdd])
      refine v_aload_n (n := 60) xB_164 dX11_prints_59 rfl rfl ?_
      refine v_dup (n := 61) xB_164 dX11_prints_60 rfl rfl ?_
      refine v_gf_i (n := 64) (kz := 30) xB_164 dX11_prints_61 xO_164 fl_11_102 fg_11_30 rfl (sh_81 _ _ _) rfl rfl ?_
      refine v_iconst (n := 65) xB_164 dX11_prints_64 ⟨by decide, by decide⟩ rfl ?_
      refine v_iadd (n := 66) xB_164 dX11_prints_65 (by first | omega | (simp only [sA_same, sA_s, ud_s, Int.reduceEq, if_true, if_false, ite_true, ite_false, ↓reduceIte, and_true, true_and, eq_self, Int.add_zero, Int.reduceAdd]; omega)) rfl ?_
      refine v_pf_i (n := 69) (kz := 30) xB_164 dX11_prints_66 xO_164 fl_11_102 fg_11_30 (Or.inl fn_11_30) (sh_81 _ _ _) (by decide) rfl rfl ?_
      (try simp (disch := omega) only [sA_same, sA_ne, sA_sA, sA_sr, sB_s, ud_eq, ud_ne, ud_ud, ud_sr, uB_s, Int.add_zero, Int.reduceAdd])
      refine v_return xB_164 dX11_prints_69 xK_164 ?_
      (try simp (disch := omega) only [sA_same, sA_ne, sA_sA, sA_sr, sB_s, ud_eq, ud_ne, ud_ud, ud_sr, uB_s, Int.add_zero, Int.reduceAdd])
      refine o1 _ _ (bl_ud hb (by decide) _) (pgs_ud hp (by omega) _) (fun x => ?_)
      rw [pkA_s, pkA_s, pkA_s]
      by_cases hx : x = s
      · subst hx
        rw [if_pos rfl]
        simp (disch := omega) only [ud_eq, ud_ne]
        first | (rw [wp_pk1 _ (by omega) (hb _) (hp _) (hb _)]; done) | (rw [show m 96 (2 * x) = 0 by omega, wp_pk0 _ (hb _) (hp _) (hb _)]; first | (rw [show b = 1 by omega]; rfl) | (rw [show b = 0 by omega]; rfl))
      · rw [if_neg hx]
        simp (disch := omega) only [ud_ne]
    · (try simp (disch := omega) only [sA_same, sA_ne, sA_sA, sA_sr, sB_s, ud_eq, ud_ne, ud_ud, ud_sr, uB_s, Int.add_zero, Int.reduceAdd] at g2)
      refine v_iconst (n := 54) xB_164 dX11_prints_53 ⟨by decide, by decide⟩ rfl ?_
      refine v_goto (t := 58) xB_164 dX11_prints_54 (by decide) rfl ?_
      refine v_bastore01 (n := 59) (lz := 24) xB_164 dX11_prints_58 (sh_99 _ _ _) (by decide) rfl (by first | omega | (simp only [sA_same, sA_s, ud_s, Int.reduceEq, if_true, if_false, ite_true, ite_false, ↓reduceIte, and_true, true_and, eq_self, Int.add_zero, Int.reduceAdd]; omega)) (by decide) rfl ?_
      (try simp (disch := omega) only [sA_same, sA_ne, sA_sA, sA_sr, sB_s, ud_eq, ud_ne, ud_ud, ud_sr, uB_s, Int.add_zero, Int.reduceAdd])
      refine v_aload_n (n := 60) xB_164 dX11_prints_59 rfl rfl ?_
      refine v_dup (n := 61) xB_164 dX11_prints_60 rfl rfl ?_
      refine v_gf_i (n := 64) (kz := 30) xB_164 dX11_prints_61 xO_164 fl_11_102 fg_11_30 rfl (sh_81 _ _ _) rfl rfl ?_
      refine v_iconst (n := 65) xB_164 dX11_prints_64 ⟨by decide, by decide⟩ rfl ?_
      refine v_iadd (n := 66) xB_164 dX11_prints_65 (by first | omega | (simp only [sA_same, sA_s, ud_s, Int.reduceEq, if_true, if_false, ite_true, ite_false, ↓reduceIte, and_true, true_and, eq_self, Int.add_zero, Int.reduceAdd]; omega)) rfl ?_
      refine v_pf_i (n := 69) (kz := 30) xB_164 dX11_prints_66 xO_164 fl_11_102 fg_11_30 (Or.inl fn_11_30) (sh_81 _ _ _) (by decide) rfl rfl ?_
      (try simp (disch := omega) only [sA_same, sA_ne, sA_sA, sA_sr, sB_s, ud_eq, ud_ne, ud_ud, ud_sr, uB_s, Int.add_zero, Int.reduceAdd])
      refine v_return xB_164 dX11_prints_69 xK_164 ?_
      (try simp (disch := omega) only [sA_same, sA_ne, sA_sA, sA_sr, sB_s, ud_eq, ud_ne, ud_ud, ud_sr, uB_s, Int.add_zero, Int.reduceAdd])
      refine o1 _ _ (bl_ud hb (by decide) _) (pgs_ud hp (by omega) _) (fun x => ?_)
      rw [pkA_s, pkA_s, pkA_s]
      by_cases hx : x = s
      · subst hx
        rw [if_pos rfl]
        simp (disch := omega) only [ud_eq, ud_ne]
        first | (rw [wp_pk1 _ (by omega) (hb _) (hp _) (hb _)]; done) | (rw [show m 96 (2 * x) = 0 by omega, wp_pk0 _ (hb _) (hp _) (hb _)]; first | (rw [show b = 1 by omega]; rfl) | (rw [show b = 0 by omega]; rfl))
      · rw [if_neg hx]
        simp (disch := omega) only [ud_ne]
set_option maxHeartbeats 1000000 in
theorem c_told1 {d : Nat} {t p : Int} {m : PM} {dy : List (Nat × Nat)} {L : Nat} {Q : Option PV → PS → Prop} (hd : 1 ≤ d) (ht : 0 ≤ t ∧ t < 5) (hpg : 0 ≤ p ∧ p < 128) (h29 : 0 ≤ m 81 29 ∧ m 81 29 ≤ 100) (hr : r9 (m 85)) (o1 : Q (some (.inl (mn60 (p + moF (m 82 t) (m 85 (4 * t + m 81 29 % 4)))))) (m, (none, (dy, L)))) : C d 167 [.inr (.inr 81), .inl t, .inl p] (m, (none, (dy, L))) Q := by
  refine C_go (k := 0) hd xL_167 (fun d hd => ?_)
  show V d 167 (0, ([some (.inr (.inr 81)), some (.inl t), some (.inl p), none], ([], (m, (none, (dy, L)))))) Q
  have q1 := hr (4 * t + m 81 29 % 4)
  refine v_aload_n (n := 1) xB_167 dX11_told1_0 rfl rfl ?_
  refine v_gf_s (n := 4) (kz := 1) xB_167 dX11_told1_1 xO_167 fl_11_13 fg_11_1 (sh_81 _ _ _) rfl st_81_1 rfl ?_
  refine v_iload_n (n := 5) xB_167 dX11_told1_4 rfl rfl ?_
  refine v_iaload (n := 6) (lz := 5) xB_167 dX11_told1_5 (sh_82 _ _ _) rfl (by first | omega | (simp only [sA_same, sA_s, ud_s, Int.reduceEq, if_true, if_false, ite_true, ite_false, ↓reduceIte, and_true, true_and, eq_self, Int.add_zero, Int.reduceAdd]; omega)) rfl ?_
  refine v_bipush (n := 8) xB_167 dX11_told1_6 ⟨by decide, by decide⟩ rfl ?_
  refine v_ic_ne (t := 31) (n := 11) xB_167 dX11_told1_8 (by decide) rfl rfl (fun g1 => ?_) (fun g1 => ?_)
  · refine v_iload_n (n := 32) xB_167 dX11_told1_31 rfl rfl ?_
    refine v_istore_n3 (n := 33) xB_167 dX11_told1_32 rfl rfl ?_
    refine v_iload_n (n := 34) xB_167 dX11_told1_33 rfl rfl ?_
    refine v_bipush (n := 36) xB_167 dX11_told1_34 ⟨by decide, by decide⟩ rfl ?_
    refine v_ic_le (t := 44) (n := 39) xB_167 dX11_told1_36 (by decide) rfl rfl (fun g2 => ?_) (fun g2 => ?_)
    · refine v_iload_n (n := 45) xB_167 dX11_told1_44 rfl rfl ?_
      refine v_ireturn0 xB_167 dX11_told1_45 xK_167 ?_
      unfold moF at o1
      first | rw [if_pos (by omega)] at o1 | rw [if_neg (by omega), Int.add_zero] at o1
      unfold mn60 at o1
      first | (rw [if_pos (by omega)] at o1; exact o1) | (rw [if_neg (by omega)] at o1; exact o1)
    · refine v_bipush (n := 41) xB_167 dX11_told1_39 ⟨by decide, by decide⟩ rfl ?_
      refine v_goto (t := 45) xB_167 dX11_told1_41 (by decide) rfl ?_
      refine v_ireturn0 xB_167 dX11_told1_45 xK_167 ?_
      unfold moF at o1
      first | rw [if_pos (by omega)] at o1 | rw [if_neg (by omega), Int.add_zero] at o1
      unfold mn60 at o1
      first | (rw [if_pos (by omega)] at o1; exact o1) | (rw [if_neg (by omega)] at o1; exact o1)
  · refine v_iload_n (n := 12) xB_167 dX11_told1_11 rfl rfl ?_
    refine v_aload_n (n := 13) xB_167 dX11_told1_12 rfl rfl ?_
    refine v_gf_s (n := 16) (kz := 4) xB_167 dX11_told1_13 xO_167 fl_11_23 fg_11_4 (sh_81 _ _ _) rfl st_81_4 rfl ?_
    refine v_iconst (n := 17) xB_167 dX11_told1_16 ⟨by decide, by decide⟩ rfl ?_
    refine v_iload_n (n := 18) xB_167 dX11_told1_17 rfl rfl ?_
    refine v_imul (n := 19) xB_167 dX11_told1_18 (by first | omega | (simp only [sA_same, sA_s, ud_s, Int.reduceEq, if_true, if_false, ite_true, ite_false, ↓reduceIte, and_true, true_and, eq_self, Int.add_zero, Int.reduceAdd]; omega)) rfl ?_
    refine v_aload_n (n := 20) xB_167 dX11_told1_19 rfl rfl ?_
    refine v_gf_i (n := 23) (kz := 29) xB_167 dX11_told1_20 xO_167 fl_11_99 fg_11_29 rfl (sh_81 _ _ _) rfl rfl ?_
    refine v_iconst (n := 24) xB_167 dX11_told1_23 ⟨by decide, by decide⟩ rfl ?_
    refine v_irem (n := 25) xB_167 dX11_told1_24 (by first | omega | (simp only [sA_same, sA_s, ud_s, Int.reduceEq, if_true, if_false, ite_true, ite_false, ↓reduceIte, and_true, true_and, eq_self, Int.add_zero, Int.reduceAdd]; omega)) rfl ?_
    refine v_iadd (n := 26) xB_167 dX11_told1_25 (by first | omega | (simp only [sA_same, sA_s, ud_s, Int.reduceEq, if_true, if_false, ite_true, ite_false, ↓reduceIte, and_true, true_and, eq_self, Int.add_zero, Int.reduceAdd]; omega)) rfl ?_
    refine v_iaload (n := 27) (lz := 20) xB_167 dX11_told1_26 (sh_85 _ _ _) rfl (by first | omega | (simp only [sA_same, sA_s, ud_s, Int.reduceEq, if_true, if_false, ite_true, ite_false, ↓reduceIte, and_true, true_and, eq_self, Int.add_zero, Int.reduceAdd]; omega)) rfl ?_
    refine v_iadd (n := 28) xB_167 dX11_told1_27 (by first | omega | (simp only [sA_same, sA_s, ud_s, Int.reduceEq, if_true, if_false, ite_true, ite_false, ↓reduceIte, and_true, true_and, eq_self, Int.add_zero, Int.reduceAdd]; omega)) rfl ?_
    refine v_goto (t := 32) xB_167 dX11_told1_28 (by decide) rfl ?_
    refine v_istore_n3 (n := 33) xB_167 dX11_told1_32 rfl rfl ?_
    refine v_iload_n (n := 34) xB_167 dX11_told1_33 rfl rfl ?_
    refine v_bipush (n := 36) xB_167 dX11_told1_34 ⟨by decide, by decide⟩ rfl ?_
    refine v_ic_le (t := 44) (n := 39) xB_167 dX11_told1_36 (by decide) rfl rfl (fun g3 => ?_) (fun g3 => ?_)
    · refine v_iload_n (n := 45) xB_167 dX11_told1_44 rfl rfl ?_
      refine v_ireturn0 xB_167 dX11_told1_45 xK_167 ?_
      unfold moF at o1
      first | rw [if_pos (by omega)] at o1 | rw [if_neg (by omega), Int.add_zero] at o1
      unfold mn60 at o1
      first | (rw [if_pos (by omega)] at o1; exact o1) | (rw [if_neg (by omega)] at o1; exact o1)
    · refine v_bipush (n := 41) xB_167 dX11_told1_39 ⟨by decide, by decide⟩ rfl ?_
      refine v_goto (t := 45) xB_167 dX11_told1_41 (by decide) rfl ?_
      refine v_ireturn0 xB_167 dX11_told1_45 xK_167 ?_
      unfold moF at o1
      first | rw [if_pos (by omega)] at o1 | rw [if_neg (by omega), Int.add_zero] at o1
      unfold mn60 at o1
      first | (rw [if_pos (by omega)] at o1; exact o1) | (rw [if_neg (by omega)] at o1; exact o1)
set_option maxHeartbeats 1000000 in
theorem c_putsOut {d : Nat} {s t : Int} {m : PM} {dy : List (Nat × Nat)} {L : Nat} {Q : Option PV → PS → Prop} (hd : 2 ≤ d) (hs : 0 ≤ s ∧ s < 12) (ht : 0 ≤ t ∧ t < 5) (h29 : 0 ≤ m 81 29 ∧ m 81 29 < 12) (h82 : 0 ≤ m 82 t ∧ m 82 t ≤ 6) (hb : bl (m 99)) (hp : pgs (m 96)) (hob : bl (m 100)) (hop : pgs (m 97)) (o1 : ∀ sd dn od on : Int → Int, bl dn → pgs sd → bl on → pgs od → (∀ x, x ≠ s → pkA sd dn x = pkA (m 96) (m 99) x) → (∀ x, pkA od on x = if x = m 81 29 then lyF (m 82 t) (pkA (m 96) (m 99) s) else pkA (m 97) (m 100) x) → Q (none) (setA (setA (setA (setA (setA m 81 (ud (m 81) 29 (m 81 29 + 1))) 96 sd) 97 od) 99 dn) 100 on, (none, (dy, L)))) : C d 165 [.inr (.inr 81), .inl s, .inl t] (m, (none, (dy, L))) Q := by
  refine C_go (k := 1) hd xL_165 (fun d hd => ?_)
  show V d 165 (0, ([some (.inr (.inr 81)), some (.inl s), some (.inl t), none], ([], (m, (none, (dy, L)))))) Q
  have q1 := hb (2 * s)
  have q2 := hb (2 * s + 1)
  have q3 := hp (2 * s)
  have q4 := hp (2 * s + 1)
  rcases (by omega : m 82 t = 0 ∨ m 82 t = 1 ∨ m 82 t = 2 ∨ m 82 t = 3 ∨ m 82 t = 4 ∨ m 82 t = 5 ∨ m 82 t = 6) with hk | hk | hk | hk | hk | hk | hk
  · skip
    refine v_aload_n (n := 1) xB_165 dX11_putsOut_0 rfl rfl ?_
    refine v_gf_s (n := 4) (kz := 1) xB_165 dX11_putsOut_1 xO_165 fl_11_13 fg_11_1 (sh_81 _ _ _) rfl st_81_1 rfl ?_
    refine v_iload_n (n := 5) xB_165 dX11_putsOut_4 rfl rfl ?_
    refine v_iaload (n := 6) (lz := 5) xB_165 dX11_putsOut_5 (sh_82 _ _ _) rfl (by first | omega | (simp only [sA_same, sA_s, ud_s, Int.reduceEq, if_true, if_false, ite_true, ite_false, ↓reduceIte, and_true, true_and, eq_self, Int.add_zero, Int.reduceAdd]; omega)) rfl ?_
    refine v_iconst (n := 7) xB_165 dX11_putsOut_6 ⟨by decide, by decide⟩ rfl ?_
    refine v_ic_eq_n (n := 10) xB_165 dX11_putsOut_7 (by decide) rfl (by first | omega | (simp only [sA_same, sA_s, ud_s, Int.reduceEq, if_true, if_false, ite_true, ite_false, ↓reduceIte, and_true, true_and, eq_self, Int.add_zero, Int.reduceAdd]; omega)) ?_
    refine v_aload_n (n := 11) xB_165 dX11_putsOut_10 rfl rfl ?_
    refine v_gf_s (n := 14) (kz := 1) xB_165 dX11_putsOut_11 xO_165 fl_11_13 fg_11_1 (sh_81 _ _ _) rfl st_81_1 rfl ?_
    refine v_iload_n (n := 15) xB_165 dX11_putsOut_14 rfl rfl ?_
    refine v_iaload (n := 16) (lz := 5) xB_165 dX11_putsOut_15 (sh_82 _ _ _) rfl (by first | omega | (simp only [sA_same, sA_s, ud_s, Int.reduceEq, if_true, if_false, ite_true, ite_false, ↓reduceIte, and_true, true_and, eq_self, Int.add_zero, Int.reduceAdd]; omega)) rfl ?_
    refine v_iconst (n := 17) xB_165 dX11_putsOut_16 ⟨by decide, by decide⟩ rfl ?_
    refine v_ic_eq_n (n := 20) xB_165 dX11_putsOut_17 (by decide) rfl (by first | omega | (simp only [sA_same, sA_s, ud_s, Int.reduceEq, if_true, if_false, ite_true, ite_false, ↓reduceIte, and_true, true_and, eq_self, Int.add_zero, Int.reduceAdd]; omega)) ?_
    refine v_aload_n (n := 21) xB_165 dX11_putsOut_20 rfl rfl ?_
    refine v_gf_s (n := 24) (kz := 1) xB_165 dX11_putsOut_21 xO_165 fl_11_13 fg_11_1 (sh_81 _ _ _) rfl st_81_1 rfl ?_
    refine v_iload_n (n := 25) xB_165 dX11_putsOut_24 rfl rfl ?_
    refine v_iaload (n := 26) (lz := 5) xB_165 dX11_putsOut_25 (sh_82 _ _ _) rfl (by first | omega | (simp only [sA_same, sA_s, ud_s, Int.reduceEq, if_true, if_false, ite_true, ite_false, ↓reduceIte, and_true, true_and, eq_self, Int.add_zero, Int.reduceAdd]; omega)) rfl ?_
    refine v_iconst (n := 27) xB_165 dX11_putsOut_26 ⟨by decide, by decide⟩ rfl ?_
    refine v_ic_eq_n (n := 30) xB_165 dX11_putsOut_27 (by decide) rfl (by first | omega | (simp only [sA_same, sA_s, ud_s, Int.reduceEq, if_true, if_false, ite_true, ite_false, ↓reduceIte, and_true, true_and, eq_self, Int.add_zero, Int.reduceAdd]; omega)) ?_
    refine v_aload_n (n := 31) xB_165 dX11_putsOut_30 rfl rfl ?_
    refine v_gf_s (n := 34) (kz := 1) xB_165 dX11_putsOut_31 xO_165 fl_11_13 fg_11_1 (sh_81 _ _ _) rfl st_81_1 rfl ?_
    refine v_iload_n (n := 35) xB_165 dX11_putsOut_34 rfl rfl ?_
    refine v_iaload (n := 36) (lz := 5) xB_165 dX11_putsOut_35 (sh_82 _ _ _) rfl (by first | omega | (simp only [sA_same, sA_s, ud_s, Int.reduceEq, if_true, if_false, ite_true, ite_false, ↓reduceIte, and_true, true_and, eq_self, Int.add_zero, Int.reduceAdd]; omega)) rfl ?_
    refine v_iconst (n := 37) xB_165 dX11_putsOut_36 ⟨by decide, by decide⟩ rfl ?_
    refine v_ic_ne_y (t := 45) xB_165 dX11_putsOut_37 (by decide) rfl (by first | omega | (simp only [sA_same, sA_s, ud_s, Int.reduceEq, if_true, if_false, ite_true, ite_false, ↓reduceIte, and_true, true_and, eq_self, Int.add_zero, Int.reduceAdd]; omega)) ?_
    refine v_aload_n (n := 46) xB_165 dX11_putsOut_45 rfl rfl ?_
    refine v_gf_s (n := 49) (kz := 1) xB_165 dX11_putsOut_46 xO_165 fl_11_13 fg_11_1 (sh_81 _ _ _) rfl st_81_1 rfl ?_
    refine v_iload_n (n := 50) xB_165 dX11_putsOut_49 rfl rfl ?_
    refine v_iaload (n := 51) (lz := 5) xB_165 dX11_putsOut_50 (sh_82 _ _ _) rfl (by first | omega | (simp only [sA_same, sA_s, ud_s, Int.reduceEq, if_true, if_false, ite_true, ite_false, ↓reduceIte, and_true, true_and, eq_self, Int.add_zero, Int.reduceAdd]; omega)) rfl ?_
    refine v_iconst (n := 52) xB_165 dX11_putsOut_51 ⟨by decide, by decide⟩ rfl ?_
    refine v_ic_eq_n (n := 55) xB_165 dX11_putsOut_52 (by decide) rfl (by first | omega | (simp only [sA_same, sA_s, ud_s, Int.reduceEq, if_true, if_false, ite_true, ite_false, ↓reduceIte, and_true, true_and, eq_self, Int.add_zero, Int.reduceAdd]; omega)) ?_
    refine v_aload_n (n := 56) xB_165 dX11_putsOut_55 rfl rfl ?_
    refine v_gf_s (n := 59) (kz := 1) xB_165 dX11_putsOut_56 xO_165 fl_11_13 fg_11_1 (sh_81 _ _ _) rfl st_81_1 rfl ?_
    refine v_iload_n (n := 60) xB_165 dX11_putsOut_59 rfl rfl ?_
    refine v_iaload (n := 61) (lz := 5) xB_165 dX11_putsOut_60 (sh_82 _ _ _) rfl (by first | omega | (simp only [sA_same, sA_s, ud_s, Int.reduceEq, if_true, if_false, ite_true, ite_false, ↓reduceIte, and_true, true_and, eq_self, Int.add_zero, Int.reduceAdd]; omega)) rfl ?_
    refine v_iconst (n := 62) xB_165 dX11_putsOut_61 ⟨by decide, by decide⟩ rfl ?_
    refine v_ic_ne_y (t := 70) xB_165 dX11_putsOut_62 (by decide) rfl (by first | omega | (simp only [sA_same, sA_s, ud_s, Int.reduceEq, if_true, if_false, ite_true, ite_false, ↓reduceIte, and_true, true_and, eq_self, Int.add_zero, Int.reduceAdd]; omega)) ?_
    refine v_iconst (n := 71) xB_165 dX11_putsOut_70 ⟨by decide, by decide⟩ rfl ?_
    refine v_istore_n3 (n := 72) xB_165 dX11_putsOut_71 rfl rfl ?_
    refine v_iload_n (n := 73) xB_165 dX11_putsOut_72 rfl rfl ?_
    refine v_iconst (n := 74) xB_165 dX11_putsOut_73 ⟨by decide, by decide⟩ rfl ?_
    refine v_ic_ge_n (n := 77) xB_165 dX11_putsOut_74 (by decide) rfl (by decide) ?_
    refine v_aload_n (n := 78) xB_165 dX11_putsOut_77 rfl rfl ?_
    refine v_gf_s (n := 81) (kz := 24) xB_165 dX11_putsOut_78 xO_165 fl_11_84 fg_11_24 (sh_81 _ _ _) rfl st_81_24 rfl ?_
    refine v_iconst (n := 82) xB_165 dX11_putsOut_81 ⟨by decide, by decide⟩ rfl ?_
    refine v_aload_n (n := 83) xB_165 dX11_putsOut_82 rfl rfl ?_
    refine v_gf_i (n := 86) (kz := 29) xB_165 dX11_putsOut_83 xO_165 fl_11_99 fg_11_29 rfl (sh_81 _ _ _) rfl rfl ?_
    refine v_imul (n := 87) xB_165 dX11_putsOut_86 (by first | omega | (simp only [sA_same, sA_s, ud_s, Int.reduceEq, if_true, if_false, ite_true, ite_false, ↓reduceIte, and_true, true_and, eq_self, Int.add_zero, Int.reduceAdd]; omega)) rfl ?_
    refine v_iload_n (n := 88) xB_165 dX11_putsOut_87 rfl rfl ?_
    refine v_iadd (n := 89) xB_165 dX11_putsOut_88 (by first | omega | (simp only [sA_same, sA_s, ud_s, Int.reduceEq, if_true, if_false, ite_true, ite_false, ↓reduceIte, and_true, true_and, eq_self, Int.add_zero, Int.reduceAdd]; omega)) rfl ?_
    refine v_aload_n (n := 90) xB_165 dX11_putsOut_89 rfl rfl ?_
    refine v_gf_s (n := 93) (kz := 23) xB_165 dX11_putsOut_90 xO_165 fl_11_81 fg_11_23 (sh_81 _ _ _) rfl st_81_23 rfl ?_
    refine v_iconst (n := 94) xB_165 dX11_putsOut_93 ⟨by decide, by decide⟩ rfl ?_
    refine v_iload_n (n := 95) xB_165 dX11_putsOut_94 rfl rfl ?_
    refine v_imul (n := 96) xB_165 dX11_putsOut_95 (by first | omega | (simp only [sA_same, sA_s, ud_s, Int.reduceEq, if_true, if_false, ite_true, ite_false, ↓reduceIte, and_true, true_and, eq_self, Int.add_zero, Int.reduceAdd]; omega)) rfl ?_
    refine v_iload_n (n := 97) xB_165 dX11_putsOut_96 rfl rfl ?_
    refine v_iadd (n := 98) xB_165 dX11_putsOut_97 (by first | omega | (simp only [sA_same, sA_s, ud_s, Int.reduceEq, if_true, if_false, ite_true, ite_false, ↓reduceIte, and_true, true_and, eq_self, Int.add_zero, Int.reduceAdd]; omega)) rfl ?_
    refine v_iaload (n := 99) (lz := 24) xB_165 dX11_putsOut_98 (sh_96 _ _ _) rfl (by first | omega | (simp only [sA_same, sA_s, ud_s, Int.reduceEq, if_true, if_false, ite_true, ite_false, ↓reduceIte, and_true, true_and, eq_self, Int.add_zero, Int.reduceAdd]; omega)) rfl ?_
    refine v_iastore (n := 100) (lz := 24) xB_165 dX11_putsOut_99 (sh_97 _ _ _) (by decide) rfl (by first | omega | (simp only [sA_same, sA_s, ud_s, Int.reduceEq, if_true, if_false, ite_true, ite_false, ↓reduceIte, and_true, true_and, eq_self, Int.add_zero, Int.reduceAdd]; omega)) rfl ?_
    (try simp (disch := omega) only [sA_same, sA_ne, sA_sA, sA_sr, sB_s, ud_eq, ud_ne, ud_ud, ud_sr, uB_s, Int.add_zero, Int.reduceAdd])
    refine v_aload_n (n := 101) xB_165 dX11_putsOut_100 rfl rfl ?_
    refine v_gf_s (n := 104) (kz := 27) xB_165 dX11_putsOut_101 xO_165 fl_11_93 fg_11_27 (sh_81 _ _ _) rfl st_81_27 rfl ?_
    refine v_iconst (n := 105) xB_165 dX11_putsOut_104 ⟨by decide, by decide⟩ rfl ?_
    refine v_aload_n (n := 106) xB_165 dX11_putsOut_105 rfl rfl ?_
    refine v_gf_i (n := 109) (kz := 29) xB_165 dX11_putsOut_106 xO_165 fl_11_99 fg_11_29 rfl (sh_81 _ _ _) rfl rfl ?_
    refine v_imul (n := 110) xB_165 dX11_putsOut_109 (by first | omega | (simp only [sA_same, sA_s, ud_s, Int.reduceEq, if_true, if_false, ite_true, ite_false, ↓reduceIte, and_true, true_and, eq_self, Int.add_zero, Int.reduceAdd]; omega)) rfl ?_
    refine v_iload_n (n := 111) xB_165 dX11_putsOut_110 rfl rfl ?_
    refine v_iadd (n := 112) xB_165 dX11_putsOut_111 (by first | omega | (simp only [sA_same, sA_s, ud_s, Int.reduceEq, if_true, if_false, ite_true, ite_false, ↓reduceIte, and_true, true_and, eq_self, Int.add_zero, Int.reduceAdd]; omega)) rfl ?_
    refine v_aload_n (n := 113) xB_165 dX11_putsOut_112 rfl rfl ?_
    refine v_gf_s (n := 116) (kz := 26) xB_165 dX11_putsOut_113 xO_165 fl_11_90 fg_11_26 (sh_81 _ _ _) rfl st_81_26 rfl ?_
    refine v_iconst (n := 117) xB_165 dX11_putsOut_116 ⟨by decide, by decide⟩ rfl ?_
    refine v_iload_n (n := 118) xB_165 dX11_putsOut_117 rfl rfl ?_
    refine v_imul (n := 119) xB_165 dX11_putsOut_118 (by first | omega | (simp only [sA_same, sA_s, ud_s, Int.reduceEq, if_true, if_false, ite_true, ite_false, ↓reduceIte, and_true, true_and, eq_self, Int.add_zero, Int.reduceAdd]; omega)) rfl ?_
    refine v_iload_n (n := 120) xB_165 dX11_putsOut_119 rfl rfl ?_
    refine v_iadd (n := 121) xB_165 dX11_putsOut_120 (by first | omega | (simp only [sA_same, sA_s, ud_s, Int.reduceEq, if_true, if_false, ite_true, ite_false, ↓reduceIte, and_true, true_and, eq_self, Int.add_zero, Int.reduceAdd]; omega)) rfl ?_
    refine v_baload (n := 122) (lz := 24) xB_165 dX11_putsOut_121 (sh_99 _ _ _) rfl (by first | omega | (simp only [sA_same, sA_s, ud_s, Int.reduceEq, if_true, if_false, ite_true, ite_false, ↓reduceIte, and_true, true_and, eq_self, Int.add_zero, Int.reduceAdd]; omega)) rfl ?_
    refine v_bastore01 (n := 123) (lz := 24) xB_165 dX11_putsOut_122 (sh_100 _ _ _) (by decide) rfl (by first | omega | (simp only [sA_same, sA_s, ud_s, Int.reduceEq, if_true, if_false, ite_true, ite_false, ↓reduceIte, and_true, true_and, eq_self, Int.add_zero, Int.reduceAdd]; omega)) (by first | omega | (simp only [sA_same, sA_s, ud_s, Int.reduceEq, if_true, if_false, ite_true, ite_false, ↓reduceIte, and_true, true_and, eq_self, Int.add_zero, Int.reduceAdd]; omega)) rfl ?_
    (try simp (disch := omega) only [sA_same, sA_ne, sA_sA, sA_sr, sB_s, ud_eq, ud_ne, ud_ud, ud_sr, uB_s, Int.add_zero, Int.reduceAdd])
    refine v_iinc3 (n := 126) xB_165 dX11_putsOut_123 rfl (by first | omega | (simp only [sA_same, sA_s, ud_s, Int.reduceEq, if_true, if_false, ite_true, ite_false, ↓reduceIte, and_true, true_and, eq_self, Int.add_zero, Int.reduceAdd]; omega)) rfl ?_
    refine v_goto (t := 72) xB_165 dX11_putsOut_126 (by decide) rfl ?_
    refine v_iload_n (n := 73) xB_165 dX11_putsOut_72 rfl rfl ?_
    refine v_iconst (n := 74) xB_165 dX11_putsOut_73 ⟨by decide, by decide⟩ rfl ?_
    refine v_ic_ge_n (n := 77) xB_165 dX11_putsOut_74 (by decide) rfl (by decide) ?_
    refine v_aload_n (n := 78) xB_165 dX11_putsOut_77 rfl rfl ?_
    refine v_gf_s (n := 81) (kz := 24) xB_165 dX11_putsOut_78 xO_165 fl_11_84 fg_11_24 (sh_81 _ _ _) rfl st_81_24 rfl ?_
    refine v_iconst (n := 82) xB_165 dX11_putsOut_81 ⟨by decide, by decide⟩ rfl ?_
    refine v_aload_n (n := 83) xB_165 dX11_putsOut_82 rfl rfl ?_
    refine v_gf_i (n := 86) (kz := 29) xB_165 dX11_putsOut_83 xO_165 fl_11_99 fg_11_29 rfl (sh_81 _ _ _) rfl rfl ?_
    refine v_imul (n := 87) xB_165 dX11_putsOut_86 (by first | omega | (simp only [sA_same, sA_s, ud_s, Int.reduceEq, if_true, if_false, ite_true, ite_false, ↓reduceIte, and_true, true_and, eq_self, Int.add_zero, Int.reduceAdd]; omega)) rfl ?_
    refine v_iload_n (n := 88) xB_165 dX11_putsOut_87 rfl rfl ?_
    refine v_iadd (n := 89) xB_165 dX11_putsOut_88 (by first | omega | (simp only [sA_same, sA_s, ud_s, Int.reduceEq, if_true, if_false, ite_true, ite_false, ↓reduceIte, and_true, true_and, eq_self, Int.add_zero, Int.reduceAdd]; omega)) rfl ?_
    refine v_aload_n (n := 90) xB_165 dX11_putsOut_89 rfl rfl ?_
    refine v_gf_s (n := 93) (kz := 23) xB_165 dX11_putsOut_90 xO_165 fl_11_81 fg_11_23 (sh_81 _ _ _) rfl st_81_23 rfl ?_
    refine v_iconst (n := 94) xB_165 dX11_putsOut_93 ⟨by decide, by decide⟩ rfl ?_
    refine v_iload_n (n := 95) xB_165 dX11_putsOut_94 rfl rfl ?_
    refine v_imul (n := 96) xB_165 dX11_putsOut_95 (by first | omega | (simp only [sA_same, sA_s, ud_s, Int.reduceEq, if_true, if_false, ite_true, ite_false, ↓reduceIte, and_true, true_and, eq_self, Int.add_zero, Int.reduceAdd]; omega)) rfl ?_
    refine v_iload_n (n := 97) xB_165 dX11_putsOut_96 rfl rfl ?_
    refine v_iadd (n := 98) xB_165 dX11_putsOut_97 (by first | omega | (simp only [sA_same, sA_s, ud_s, Int.reduceEq, if_true, if_false, ite_true, ite_false, ↓reduceIte, and_true, true_and, eq_self, Int.add_zero, Int.reduceAdd]; omega)) rfl ?_
    refine v_iaload (n := 99) (lz := 24) xB_165 dX11_putsOut_98 (sh_96 _ _ _) rfl (by first | omega | (simp only [sA_same, sA_s, ud_s, Int.reduceEq, if_true, if_false, ite_true, ite_false, ↓reduceIte, and_true, true_and, eq_self, Int.add_zero, Int.reduceAdd]; omega)) rfl ?_
    refine v_iastore (n := 100) (lz := 24) xB_165 dX11_putsOut_99 (sh_97 _ _ _) (by decide) rfl (by first | omega | (simp only [sA_same, sA_s, ud_s, Int.reduceEq, if_true, if_false, ite_true, ite_false, ↓reduceIte, and_true, true_and, eq_self, Int.add_zero, Int.reduceAdd]; omega)) rfl ?_
    (try simp (disch := omega) only [sA_same, sA_ne, sA_sA, sA_sr, sB_s, ud_eq, ud_ne, ud_ud, ud_sr, uB_s, Int.add_zero, Int.reduceAdd])
    refine v_aload_n (n := 101) xB_165 dX11_putsOut_100 rfl rfl ?_
    refine v_gf_s (n := 104) (kz := 27) xB_165 dX11_putsOut_101 xO_165 fl_11_93 fg_11_27 (sh_81 _ _ _) rfl st_81_27 rfl ?_
    refine v_iconst (n := 105) xB_165 dX11_putsOut_104 ⟨by decide, by decide⟩ rfl ?_
    refine v_aload_n (n := 106) xB_165 dX11_putsOut_105 rfl rfl ?_
    refine v_gf_i (n := 109) (kz := 29) xB_165 dX11_putsOut_106 xO_165 fl_11_99 fg_11_29 rfl (sh_81 _ _ _) rfl rfl ?_
    refine v_imul (n := 110) xB_165 dX11_putsOut_109 (by first | omega | (simp only [sA_same, sA_s, ud_s, Int.reduceEq, if_true, if_false, ite_true, ite_false, ↓reduceIte, and_true, true_and, eq_self, Int.add_zero, Int.reduceAdd]; omega)) rfl ?_
    refine v_iload_n (n := 111) xB_165 dX11_putsOut_110 rfl rfl ?_
    refine v_iadd (n := 112) xB_165 dX11_putsOut_111 (by first | omega | (simp only [sA_same, sA_s, ud_s, Int.reduceEq, if_true, if_false, ite_true, ite_false, ↓reduceIte, and_true, true_and, eq_self, Int.add_zero, Int.reduceAdd]; omega)) rfl ?_
    refine v_aload_n (n := 113) xB_165 dX11_putsOut_112 rfl rfl ?_
    refine v_gf_s (n := 116) (kz := 26) xB_165 dX11_putsOut_113 xO_165 fl_11_90 fg_11_26 (sh_81 _ _ _) rfl st_81_26 rfl ?_
    refine v_iconst (n := 117) xB_165 dX11_putsOut_116 ⟨by decide, by decide⟩ rfl ?_
    refine v_iload_n (n := 118) xB_165 dX11_putsOut_117 rfl rfl ?_
    refine v_imul (n := 119) xB_165 dX11_putsOut_118 (by first | omega | (simp only [sA_same, sA_s, ud_s, Int.reduceEq, if_true, if_false, ite_true, ite_false, ↓reduceIte, and_true, true_and, eq_self, Int.add_zero, Int.reduceAdd]; omega)) rfl ?_
    refine v_iload_n (n := 120) xB_165 dX11_putsOut_119 rfl rfl ?_
    refine v_iadd (n := 121) xB_165 dX11_putsOut_120 (by first | omega | (simp only [sA_same, sA_s, ud_s, Int.reduceEq, if_true, if_false, ite_true, ite_false, ↓reduceIte, and_true, true_and, eq_self, Int.add_zero, Int.reduceAdd]; omega)) rfl ?_
    refine v_baload (n := 122) (lz := 24) xB_165 dX11_putsOut_121 (sh_99 _ _ _) rfl (by first | omega | (simp only [sA_same, sA_s, ud_s, Int.reduceEq, if_true, if_false, ite_true, ite_false, ↓reduceIte, and_true, true_and, eq_self, Int.add_zero, Int.reduceAdd]; omega)) rfl ?_
    refine v_bastore01 (n := 123) (lz := 24) xB_165 dX11_putsOut_122 (sh_100 _ _ _) (by decide) rfl (by first | omega | (simp only [sA_same, sA_s, ud_s, Int.reduceEq, if_true, if_false, ite_true, ite_false, ↓reduceIte, and_true, true_and, eq_self, Int.add_zero, Int.reduceAdd]; omega)) (by first | omega | (simp only [sA_same, sA_s, ud_s, Int.reduceEq, if_true, if_false, ite_true, ite_false, ↓reduceIte, and_true, true_and, eq_self, Int.add_zero, Int.reduceAdd]; omega)) rfl ?_
    (try simp (disch := omega) only [sA_same, sA_ne, sA_sA, sA_sr, sB_s, ud_eq, ud_ne, ud_ud, ud_sr, uB_s, Int.add_zero, Int.reduceAdd])
    refine v_iinc3 (n := 126) xB_165 dX11_putsOut_123 rfl (by first | omega | (simp only [sA_same, sA_s, ud_s, Int.reduceEq, if_true, if_false, ite_true, ite_false, ↓reduceIte, and_true, true_and, eq_self, Int.add_zero, Int.reduceAdd]; omega)) rfl ?_
    refine v_goto (t := 72) xB_165 dX11_putsOut_126 (by decide) rfl ?_
    refine v_iload_n (n := 73) xB_165 dX11_putsOut_72 rfl rfl ?_
    refine v_iconst (n := 74) xB_165 dX11_putsOut_73 ⟨by decide, by decide⟩ rfl ?_
    refine v_ic_ge_y (t := 129) xB_165 dX11_putsOut_74 (by decide) rfl (by decide) ?_
    refine v_aload_n (n := 130) xB_165 dX11_putsOut_129 rfl rfl ?_
    refine v_dup (n := 131) xB_165 dX11_putsOut_130 rfl rfl ?_
    refine v_gf_i (n := 134) (kz := 29) xB_165 dX11_putsOut_131 xO_165 fl_11_99 fg_11_29 rfl (sh_81 _ _ _) rfl rfl ?_
    refine v_iconst (n := 135) xB_165 dX11_putsOut_134 ⟨by decide, by decide⟩ rfl ?_
    refine v_iadd (n := 136) xB_165 dX11_putsOut_135 (by first | omega | (simp only [sA_same, sA_s, ud_s, Int.reduceEq, if_true, if_false, ite_true, ite_false, ↓reduceIte, and_true, true_and, eq_self, Int.add_zero, Int.reduceAdd]; omega)) rfl ?_
    refine v_pf_i (n := 139) (kz := 29) xB_165 dX11_putsOut_136 xO_165 fl_11_99 fg_11_29 (Or.inl fn_11_29) (sh_81 _ _ _) (by decide) rfl rfl ?_
    (try simp (disch := omega) only [sA_same, sA_ne, sA_sA, sA_sr, sB_s, ud_eq, ud_ne, ud_ud, ud_sr, uB_s, Int.add_zero, Int.reduceAdd])
    refine v_return xB_165 dX11_putsOut_139 xK_165 ?_
    (try simp (disch := omega) only [sA_same, sA_ne, sA_sA, sA_sr, sB_s, ud_eq, ud_ne, ud_ud, ud_sr, uB_s, Int.add_zero, Int.reduceAdd])
    (try rw [put_ins])
    refine o1 _ _ _ _ (by (repeat' first | assumption | refine bl_ud ?_ ?_ _) <;> omega) (by (repeat' first | assumption | refine pgs_ud ?_ ?_ _) <;> first | assumption | omega) (by (repeat' first | assumption | refine bl_ud ?_ ?_ _) <;> omega) (by (repeat' first | assumption | refine pgs_ud ?_ ?_ _) <;> first | assumption | omega) (fun x hx => ?_) (fun x => ?_)
    · first | rfl | (rw [pkA_s, pkA_s]; simp (disch := omega) only [ud_ne])
    · rw [pkA_s, pkA_s, pkA_s]
      by_cases hx : x = m 81 29
      · subst hx
        rw [if_pos rfl]
        simp (disch := omega) only [ud_eq, ud_ne]
        unfold lyF
        first | rw [if_pos (by omega), ov_pk (hp _) (hb _) (hp _) (hb _)] | rw [if_neg (by omega), if_pos (by omega), ov_pk (hp _) (hb _) (hp _) (hb _), abt_pk (hp _) (hb _) (hp _) (hb _)] | rw [if_neg (by omega), if_neg (by omega)]
      · rw [if_neg hx]
        simp (disch := omega) only [ud_ne]
  · skip
    refine v_aload_n (n := 1) xB_165 dX11_putsOut_0 rfl rfl ?_
    refine v_gf_s (n := 4) (kz := 1) xB_165 dX11_putsOut_1 xO_165 fl_11_13 fg_11_1 (sh_81 _ _ _) rfl st_81_1 rfl ?_
    refine v_iload_n (n := 5) xB_165 dX11_putsOut_4 rfl rfl ?_
    refine v_iaload (n := 6) (lz := 5) xB_165 dX11_putsOut_5 (sh_82 _ _ _) rfl (by first | omega | (simp only [sA_same, sA_s, ud_s, Int.reduceEq, if_true, if_false, ite_true, ite_false, ↓reduceIte, and_true, true_and, eq_self, Int.add_zero, Int.reduceAdd]; omega)) rfl ?_
    refine v_iconst (n := 7) xB_165 dX11_putsOut_6 ⟨by decide, by decide⟩ rfl ?_
    refine v_ic_eq_y (t := 40) xB_165 dX11_putsOut_7 (by decide) rfl (by first | omega | (simp only [sA_same, sA_s, ud_s, Int.reduceEq, if_true, if_false, ite_true, ite_false, ↓reduceIte, and_true, true_and, eq_self, Int.add_zero, Int.reduceAdd]; omega)) ?_
    refine v_aload_n (n := 41) xB_165 dX11_putsOut_40 rfl rfl ?_
    refine v_iload_n (n := 42) xB_165 dX11_putsOut_41 rfl rfl ?_
    refine v_call_v (n := 45) xB_165 dX11_putsOut_42 xO_165 iv_11_303 rfl (sh_81 _ _ _) rfl rfl rfl ?_
    refine c_over (by omega) (by first | omega | (simp only [sA_same, sA_s, ud_s, Int.reduceEq, if_true, if_false, ite_true, ite_false, ↓reduceIte, and_true, true_and, eq_self, Int.add_zero, Int.reduceAdd]; omega)) (by first | assumption | (simp only [sA_same, sA_s, ud_s, Int.reduceEq, if_true, if_false, ite_true, ite_false, ↓reduceIte, and_true, true_and, eq_self, Int.add_zero, Int.reduceAdd]; assumption)) ?_
    (try simp (disch := omega) only [sA_same, sA_ne, sA_sA, sA_sr, sB_s, ud_eq, ud_ne, ud_ud, ud_sr, uB_s, Int.add_zero, Int.reduceAdd])
    refine v_aload_n (n := 46) xB_165 dX11_putsOut_45 rfl rfl ?_
    refine v_gf_s (n := 49) (kz := 1) xB_165 dX11_putsOut_46 xO_165 fl_11_13 fg_11_1 (sh_81 _ _ _) rfl st_81_1 rfl ?_
    refine v_iload_n (n := 50) xB_165 dX11_putsOut_49 rfl rfl ?_
    refine v_iaload (n := 51) (lz := 5) xB_165 dX11_putsOut_50 (sh_82 _ _ _) rfl (by first | omega | (simp only [sA_same, sA_s, ud_s, Int.reduceEq, if_true, if_false, ite_true, ite_false, ↓reduceIte, and_true, true_and, eq_self, Int.add_zero, Int.reduceAdd]; omega)) rfl ?_
    refine v_iconst (n := 52) xB_165 dX11_putsOut_51 ⟨by decide, by decide⟩ rfl ?_
    refine v_ic_eq_n (n := 55) xB_165 dX11_putsOut_52 (by decide) rfl (by first | omega | (simp only [sA_same, sA_s, ud_s, Int.reduceEq, if_true, if_false, ite_true, ite_false, ↓reduceIte, and_true, true_and, eq_self, Int.add_zero, Int.reduceAdd]; omega)) ?_
    refine v_aload_n (n := 56) xB_165 dX11_putsOut_55 rfl rfl ?_
    refine v_gf_s (n := 59) (kz := 1) xB_165 dX11_putsOut_56 xO_165 fl_11_13 fg_11_1 (sh_81 _ _ _) rfl st_81_1 rfl ?_
    refine v_iload_n (n := 60) xB_165 dX11_putsOut_59 rfl rfl ?_
    refine v_iaload (n := 61) (lz := 5) xB_165 dX11_putsOut_60 (sh_82 _ _ _) rfl (by first | omega | (simp only [sA_same, sA_s, ud_s, Int.reduceEq, if_true, if_false, ite_true, ite_false, ↓reduceIte, and_true, true_and, eq_self, Int.add_zero, Int.reduceAdd]; omega)) rfl ?_
    refine v_iconst (n := 62) xB_165 dX11_putsOut_61 ⟨by decide, by decide⟩ rfl ?_
    refine v_ic_ne_y (t := 70) xB_165 dX11_putsOut_62 (by decide) rfl (by first | omega | (simp only [sA_same, sA_s, ud_s, Int.reduceEq, if_true, if_false, ite_true, ite_false, ↓reduceIte, and_true, true_and, eq_self, Int.add_zero, Int.reduceAdd]; omega)) ?_
    refine v_iconst (n := 71) xB_165 dX11_putsOut_70 ⟨by decide, by decide⟩ rfl ?_
    refine v_istore_n3 (n := 72) xB_165 dX11_putsOut_71 rfl rfl ?_
    refine v_iload_n (n := 73) xB_165 dX11_putsOut_72 rfl rfl ?_
    refine v_iconst (n := 74) xB_165 dX11_putsOut_73 ⟨by decide, by decide⟩ rfl ?_
    refine v_ic_ge_n (n := 77) xB_165 dX11_putsOut_74 (by decide) rfl (by decide) ?_
    refine v_aload_n (n := 78) xB_165 dX11_putsOut_77 rfl rfl ?_
    refine v_gf_s (n := 81) (kz := 24) xB_165 dX11_putsOut_78 xO_165 fl_11_84 fg_11_24 (sh_81 _ _ _) rfl st_81_24 rfl ?_
    refine v_iconst (n := 82) xB_165 dX11_putsOut_81 ⟨by decide, by decide⟩ rfl ?_
    refine v_aload_n (n := 83) xB_165 dX11_putsOut_82 rfl rfl ?_
    refine v_gf_i (n := 86) (kz := 29) xB_165 dX11_putsOut_83 xO_165 fl_11_99 fg_11_29 rfl (sh_81 _ _ _) rfl rfl ?_
    refine v_imul (n := 87) xB_165 dX11_putsOut_86 (by first | omega | (simp only [sA_same, sA_s, ud_s, Int.reduceEq, if_true, if_false, ite_true, ite_false, ↓reduceIte, and_true, true_and, eq_self, Int.add_zero, Int.reduceAdd]; omega)) rfl ?_
    refine v_iload_n (n := 88) xB_165 dX11_putsOut_87 rfl rfl ?_
    refine v_iadd (n := 89) xB_165 dX11_putsOut_88 (by first | omega | (simp only [sA_same, sA_s, ud_s, Int.reduceEq, if_true, if_false, ite_true, ite_false, ↓reduceIte, and_true, true_and, eq_self, Int.add_zero, Int.reduceAdd]; omega)) rfl ?_
    refine v_aload_n (n := 90) xB_165 dX11_putsOut_89 rfl rfl ?_
    refine v_gf_s (n := 93) (kz := 23) xB_165 dX11_putsOut_90 xO_165 fl_11_81 fg_11_23 (sh_81 _ _ _) rfl st_81_23 rfl ?_
    refine v_iconst (n := 94) xB_165 dX11_putsOut_93 ⟨by decide, by decide⟩ rfl ?_
    refine v_iload_n (n := 95) xB_165 dX11_putsOut_94 rfl rfl ?_
    refine v_imul (n := 96) xB_165 dX11_putsOut_95 (by first | omega | (simp only [sA_same, sA_s, ud_s, Int.reduceEq, if_true, if_false, ite_true, ite_false, ↓reduceIte, and_true, true_and, eq_self, Int.add_zero, Int.reduceAdd]; omega)) rfl ?_
    refine v_iload_n (n := 97) xB_165 dX11_putsOut_96 rfl rfl ?_
    refine v_iadd (n := 98) xB_165 dX11_putsOut_97 (by first | omega | (simp only [sA_same, sA_s, ud_s, Int.reduceEq, if_true, if_false, ite_true, ite_false, ↓reduceIte, and_true, true_and, eq_self, Int.add_zero, Int.reduceAdd]; omega)) rfl ?_
    refine v_iaload (n := 99) (lz := 24) xB_165 dX11_putsOut_98 (sh_96 _ _ _) rfl (by first | omega | (simp only [sA_same, sA_s, ud_s, Int.reduceEq, if_true, if_false, ite_true, ite_false, ↓reduceIte, and_true, true_and, eq_self, Int.add_zero, Int.reduceAdd]; omega)) rfl ?_
    refine v_iastore (n := 100) (lz := 24) xB_165 dX11_putsOut_99 (sh_97 _ _ _) (by decide) rfl (by first | omega | (simp only [sA_same, sA_s, ud_s, Int.reduceEq, if_true, if_false, ite_true, ite_false, ↓reduceIte, and_true, true_and, eq_self, Int.add_zero, Int.reduceAdd]; omega)) rfl ?_
    (try simp (disch := omega) only [sA_same, sA_ne, sA_sA, sA_sr, sB_s, ud_eq, ud_ne, ud_ud, ud_sr, uB_s, Int.add_zero, Int.reduceAdd])
    refine v_aload_n (n := 101) xB_165 dX11_putsOut_100 rfl rfl ?_
    refine v_gf_s (n := 104) (kz := 27) xB_165 dX11_putsOut_101 xO_165 fl_11_93 fg_11_27 (sh_81 _ _ _) rfl st_81_27 rfl ?_
    refine v_iconst (n := 105) xB_165 dX11_putsOut_104 ⟨by decide, by decide⟩ rfl ?_
    refine v_aload_n (n := 106) xB_165 dX11_putsOut_105 rfl rfl ?_
    refine v_gf_i (n := 109) (kz := 29) xB_165 dX11_putsOut_106 xO_165 fl_11_99 fg_11_29 rfl (sh_81 _ _ _) rfl rfl ?_
    refine v_imul (n := 110) xB_165 dX11_putsOut_109 (by first | omega | (simp only [sA_same, sA_s, ud_s, Int.reduceEq, if_true, if_false, ite_true, ite_false, ↓reduceIte, and_true, true_and, eq_self, Int.add_zero, Int.reduceAdd]; omega)) rfl ?_
    refine v_iload_n (n := 111) xB_165 dX11_putsOut_110 rfl rfl ?_
    refine v_iadd (n := 112) xB_165 dX11_putsOut_111 (by first | omega | (simp only [sA_same, sA_s, ud_s, Int.reduceEq, if_true, if_false, ite_true, ite_false, ↓reduceIte, and_true, true_and, eq_self, Int.add_zero, Int.reduceAdd]; omega)) rfl ?_
    refine v_aload_n (n := 113) xB_165 dX11_putsOut_112 rfl rfl ?_
    refine v_gf_s (n := 116) (kz := 26) xB_165 dX11_putsOut_113 xO_165 fl_11_90 fg_11_26 (sh_81 _ _ _) rfl st_81_26 rfl ?_
    refine v_iconst (n := 117) xB_165 dX11_putsOut_116 ⟨by decide, by decide⟩ rfl ?_
    refine v_iload_n (n := 118) xB_165 dX11_putsOut_117 rfl rfl ?_
    refine v_imul (n := 119) xB_165 dX11_putsOut_118 (by first | omega | (simp only [sA_same, sA_s, ud_s, Int.reduceEq, if_true, if_false, ite_true, ite_false, ↓reduceIte, and_true, true_and, eq_self, Int.add_zero, Int.reduceAdd]; omega)) rfl ?_
    refine v_iload_n (n := 120) xB_165 dX11_putsOut_119 rfl rfl ?_
    refine v_iadd (n := 121) xB_165 dX11_putsOut_120 (by first | omega | (simp only [sA_same, sA_s, ud_s, Int.reduceEq, if_true, if_false, ite_true, ite_false, ↓reduceIte, and_true, true_and, eq_self, Int.add_zero, Int.reduceAdd]; omega)) rfl ?_
    refine v_baload (n := 122) (lz := 24) xB_165 dX11_putsOut_121 (sh_99 _ _ _) rfl (by first | omega | (simp only [sA_same, sA_s, ud_s, Int.reduceEq, if_true, if_false, ite_true, ite_false, ↓reduceIte, and_true, true_and, eq_self, Int.add_zero, Int.reduceAdd]; omega)) rfl ?_
    refine v_bastore01 (n := 123) (lz := 24) xB_165 dX11_putsOut_122 (sh_100 _ _ _) (by decide) rfl (by first | omega | (simp only [sA_same, sA_s, ud_s, Int.reduceEq, if_true, if_false, ite_true, ite_false, ↓reduceIte, and_true, true_and, eq_self, Int.add_zero, Int.reduceAdd]; omega)) (by first | omega | (simp only [sA_same, sA_s, ud_s, Int.reduceEq, if_true, if_false, ite_true, ite_false, ↓reduceIte, and_true, true_and, eq_self, Int.add_zero, Int.reduceAdd]; omega)) rfl ?_
    (try simp (disch := omega) only [sA_same, sA_ne, sA_sA, sA_sr, sB_s, ud_eq, ud_ne, ud_ud, ud_sr, uB_s, Int.add_zero, Int.reduceAdd])
    refine v_iinc3 (n := 126) xB_165 dX11_putsOut_123 rfl (by first | omega | (simp only [sA_same, sA_s, ud_s, Int.reduceEq, if_true, if_false, ite_true, ite_false, ↓reduceIte, and_true, true_and, eq_self, Int.add_zero, Int.reduceAdd]; omega)) rfl ?_
    refine v_goto (t := 72) xB_165 dX11_putsOut_126 (by decide) rfl ?_
    refine v_iload_n (n := 73) xB_165 dX11_putsOut_72 rfl rfl ?_
    refine v_iconst (n := 74) xB_165 dX11_putsOut_73 ⟨by decide, by decide⟩ rfl ?_
    refine v_ic_ge_n (n := 77) xB_165 dX11_putsOut_74 (by decide) rfl (by decide) ?_
    refine v_aload_n (n := 78) xB_165 dX11_putsOut_77 rfl rfl ?_
    refine v_gf_s (n := 81) (kz := 24) xB_165 dX11_putsOut_78 xO_165 fl_11_84 fg_11_24 (sh_81 _ _ _) rfl st_81_24 rfl ?_
    refine v_iconst (n := 82) xB_165 dX11_putsOut_81 ⟨by decide, by decide⟩ rfl ?_
    refine v_aload_n (n := 83) xB_165 dX11_putsOut_82 rfl rfl ?_
    refine v_gf_i (n := 86) (kz := 29) xB_165 dX11_putsOut_83 xO_165 fl_11_99 fg_11_29 rfl (sh_81 _ _ _) rfl rfl ?_
    refine v_imul (n := 87) xB_165 dX11_putsOut_86 (by first | omega | (simp only [sA_same, sA_s, ud_s, Int.reduceEq, if_true, if_false, ite_true, ite_false, ↓reduceIte, and_true, true_and, eq_self, Int.add_zero, Int.reduceAdd]; omega)) rfl ?_
    refine v_iload_n (n := 88) xB_165 dX11_putsOut_87 rfl rfl ?_
    refine v_iadd (n := 89) xB_165 dX11_putsOut_88 (by first | omega | (simp only [sA_same, sA_s, ud_s, Int.reduceEq, if_true, if_false, ite_true, ite_false, ↓reduceIte, and_true, true_and, eq_self, Int.add_zero, Int.reduceAdd]; omega)) rfl ?_
    refine v_aload_n (n := 90) xB_165 dX11_putsOut_89 rfl rfl ?_
    refine v_gf_s (n := 93) (kz := 23) xB_165 dX11_putsOut_90 xO_165 fl_11_81 fg_11_23 (sh_81 _ _ _) rfl st_81_23 rfl ?_
    refine v_iconst (n := 94) xB_165 dX11_putsOut_93 ⟨by decide, by decide⟩ rfl ?_
    refine v_iload_n (n := 95) xB_165 dX11_putsOut_94 rfl rfl ?_
    refine v_imul (n := 96) xB_165 dX11_putsOut_95 (by first | omega | (simp only [sA_same, sA_s, ud_s, Int.reduceEq, if_true, if_false, ite_true, ite_false, ↓reduceIte, and_true, true_and, eq_self, Int.add_zero, Int.reduceAdd]; omega)) rfl ?_
    refine v_iload_n (n := 97) xB_165 dX11_putsOut_96 rfl rfl ?_
    refine v_iadd (n := 98) xB_165 dX11_putsOut_97 (by first | omega | (simp only [sA_same, sA_s, ud_s, Int.reduceEq, if_true, if_false, ite_true, ite_false, ↓reduceIte, and_true, true_and, eq_self, Int.add_zero, Int.reduceAdd]; omega)) rfl ?_
    refine v_iaload (n := 99) (lz := 24) xB_165 dX11_putsOut_98 (sh_96 _ _ _) rfl (by first | omega | (simp only [sA_same, sA_s, ud_s, Int.reduceEq, if_true, if_false, ite_true, ite_false, ↓reduceIte, and_true, true_and, eq_self, Int.add_zero, Int.reduceAdd]; omega)) rfl ?_
    refine v_iastore (n := 100) (lz := 24) xB_165 dX11_putsOut_99 (sh_97 _ _ _) (by decide) rfl (by first | omega | (simp only [sA_same, sA_s, ud_s, Int.reduceEq, if_true, if_false, ite_true, ite_false, ↓reduceIte, and_true, true_and, eq_self, Int.add_zero, Int.reduceAdd]; omega)) rfl ?_
    (try simp (disch := omega) only [sA_same, sA_ne, sA_sA, sA_sr, sB_s, ud_eq, ud_ne, ud_ud, ud_sr, uB_s, Int.add_zero, Int.reduceAdd])
    refine v_aload_n (n := 101) xB_165 dX11_putsOut_100 rfl rfl ?_
    refine v_gf_s (n := 104) (kz := 27) xB_165 dX11_putsOut_101 xO_165 fl_11_93 fg_11_27 (sh_81 _ _ _) rfl st_81_27 rfl ?_
    refine v_iconst (n := 105) xB_165 dX11_putsOut_104 ⟨by decide, by decide⟩ rfl ?_
    refine v_aload_n (n := 106) xB_165 dX11_putsOut_105 rfl rfl ?_
    refine v_gf_i (n := 109) (kz := 29) xB_165 dX11_putsOut_106 xO_165 fl_11_99 fg_11_29 rfl (sh_81 _ _ _) rfl rfl ?_
    refine v_imul (n := 110) xB_165 dX11_putsOut_109 (by first | omega | (simp only [sA_same, sA_s, ud_s, Int.reduceEq, if_true, if_false, ite_true, ite_false, ↓reduceIte, and_true, true_and, eq_self, Int.add_zero, Int.reduceAdd]; omega)) rfl ?_
    refine v_iload_n (n := 111) xB_165 dX11_putsOut_110 rfl rfl ?_
    refine v_iadd (n := 112) xB_165 dX11_putsOut_111 (by first | omega | (simp only [sA_same, sA_s, ud_s, Int.reduceEq, if_true, if_false, ite_true, ite_false, ↓reduceIte, and_true, true_and, eq_self, Int.add_zero, Int.reduceAdd]; omega)) rfl ?_
    refine v_aload_n (n := 113) xB_165 dX11_putsOut_112 rfl rfl ?_
    refine v_gf_s (n := 116) (kz := 26) xB_165 dX11_putsOut_113 xO_165 fl_11_90 fg_11_26 (sh_81 _ _ _) rfl st_81_26 rfl ?_
    refine v_iconst (n := 117) xB_165 dX11_putsOut_116 ⟨by decide, by decide⟩ rfl ?_
    refine v_iload_n (n := 118) xB_165 dX11_putsOut_117 rfl rfl ?_
    refine v_imul (n := 119) xB_165 dX11_putsOut_118 (by first | omega | (simp only [sA_same, sA_s, ud_s, Int.reduceEq, if_true, if_false, ite_true, ite_false, ↓reduceIte, and_true, true_and, eq_self, Int.add_zero, Int.reduceAdd]; omega)) rfl ?_
    refine v_iload_n (n := 120) xB_165 dX11_putsOut_119 rfl rfl ?_
    refine v_iadd (n := 121) xB_165 dX11_putsOut_120 (by first | omega | (simp only [sA_same, sA_s, ud_s, Int.reduceEq, if_true, if_false, ite_true, ite_false, ↓reduceIte, and_true, true_and, eq_self, Int.add_zero, Int.reduceAdd]; omega)) rfl ?_
    refine v_baload (n := 122) (lz := 24) xB_165 dX11_putsOut_121 (sh_99 _ _ _) rfl (by first | omega | (simp only [sA_same, sA_s, ud_s, Int.reduceEq, if_true, if_false, ite_true, ite_false, ↓reduceIte, and_true, true_and, eq_self, Int.add_zero, Int.reduceAdd]; omega)) rfl ?_
    refine v_bastore01 (n := 123) (lz := 24) xB_165 dX11_putsOut_122 (sh_100 _ _ _) (by decide) rfl (by first | omega | (simp only [sA_same, sA_s, ud_s, Int.reduceEq, if_true, if_false, ite_true, ite_false, ↓reduceIte, and_true, true_and, eq_self, Int.add_zero, Int.reduceAdd]; omega)) (by first | omega | (simp only [sA_same, sA_s, ud_s, Int.reduceEq, if_true, if_false, ite_true, ite_false, ↓reduceIte, and_true, true_and, eq_self, Int.add_zero, Int.reduceAdd]; omega)) rfl ?_
    (try simp (disch := omega) only [sA_same, sA_ne, sA_sA, sA_sr, sB_s, ud_eq, ud_ne, ud_ud, ud_sr, uB_s, Int.add_zero, Int.reduceAdd])
    refine v_iinc3 (n := 126) xB_165 dX11_putsOut_123 rfl (by first | omega | (simp only [sA_same, sA_s, ud_s, Int.reduceEq, if_true, if_false, ite_true, ite_false, ↓reduceIte, and_true, true_and, eq_self, Int.add_zero, Int.reduceAdd]; omega)) rfl ?_
    refine v_goto (t := 72) xB_165 dX11_putsOut_126 (by decide) rfl ?_
    refine v_iload_n (n := 73) xB_165 dX11_putsOut_72 rfl rfl ?_
    refine v_iconst (n := 74) xB_165 dX11_putsOut_73 ⟨by decide, by decide⟩ rfl ?_
    refine v_ic_ge_y (t := 129) xB_165 dX11_putsOut_74 (by decide) rfl (by decide) ?_
    refine v_aload_n (n := 130) xB_165 dX11_putsOut_129 rfl rfl ?_
    refine v_dup (n := 131) xB_165 dX11_putsOut_130 rfl rfl ?_
    refine v_gf_i (n := 134) (kz := 29) xB_165 dX11_putsOut_131 xO_165 fl_11_99 fg_11_29 rfl (sh_81 _ _ _) rfl rfl ?_
    refine v_iconst (n := 135) xB_165 dX11_putsOut_134 ⟨by decide, by decide⟩ rfl ?_
    refine v_iadd (n := 136) xB_165 dX11_putsOut_135 (by first | omega | (simp only [sA_same, sA_s, ud_s, Int.reduceEq, if_true, if_false, ite_true, ite_false, ↓reduceIte, and_true, true_and, eq_self, Int.add_zero, Int.reduceAdd]; omega)) rfl ?_
    refine v_pf_i (n := 139) (kz := 29) xB_165 dX11_putsOut_136 xO_165 fl_11_99 fg_11_29 (Or.inl fn_11_29) (sh_81 _ _ _) (by decide) rfl rfl ?_
    (try simp (disch := omega) only [sA_same, sA_ne, sA_sA, sA_sr, sB_s, ud_eq, ud_ne, ud_ud, ud_sr, uB_s, Int.add_zero, Int.reduceAdd])
    refine v_return xB_165 dX11_putsOut_139 xK_165 ?_
    (try simp (disch := omega) only [sA_same, sA_ne, sA_sA, sA_sr, sB_s, ud_eq, ud_ne, ud_ud, ud_sr, uB_s, Int.add_zero, Int.reduceAdd])
    (try rw [put_ins])
    refine o1 _ _ _ _ (by (repeat' first | assumption | refine bl_ud ?_ ?_ _) <;> omega) (by (repeat' first | assumption | refine pgs_ud ?_ ?_ _) <;> first | assumption | omega) (by (repeat' first | assumption | refine bl_ud ?_ ?_ _) <;> omega) (by (repeat' first | assumption | refine pgs_ud ?_ ?_ _) <;> first | assumption | omega) (fun x hx => ?_) (fun x => ?_)
    · first | rfl | (rw [pkA_s, pkA_s]; simp (disch := omega) only [ud_ne])
    · rw [pkA_s, pkA_s, pkA_s]
      by_cases hx : x = m 81 29
      · subst hx
        rw [if_pos rfl]
        simp (disch := omega) only [ud_eq, ud_ne]
        unfold lyF
        first | rw [if_pos (by omega), ov_pk (hp _) (hb _) (hp _) (hb _)] | rw [if_neg (by omega), if_pos (by omega), ov_pk (hp _) (hb _) (hp _) (hb _), abt_pk (hp _) (hb _) (hp _) (hb _)] | rw [if_neg (by omega), if_neg (by omega)]
      · rw [if_neg hx]
        simp (disch := omega) only [ud_ne]
  · skip
    refine v_aload_n (n := 1) xB_165 dX11_putsOut_0 rfl rfl ?_
    refine v_gf_s (n := 4) (kz := 1) xB_165 dX11_putsOut_1 xO_165 fl_11_13 fg_11_1 (sh_81 _ _ _) rfl st_81_1 rfl ?_
    refine v_iload_n (n := 5) xB_165 dX11_putsOut_4 rfl rfl ?_
    refine v_iaload (n := 6) (lz := 5) xB_165 dX11_putsOut_5 (sh_82 _ _ _) rfl (by first | omega | (simp only [sA_same, sA_s, ud_s, Int.reduceEq, if_true, if_false, ite_true, ite_false, ↓reduceIte, and_true, true_and, eq_self, Int.add_zero, Int.reduceAdd]; omega)) rfl ?_
    refine v_iconst (n := 7) xB_165 dX11_putsOut_6 ⟨by decide, by decide⟩ rfl ?_
    refine v_ic_eq_n (n := 10) xB_165 dX11_putsOut_7 (by decide) rfl (by first | omega | (simp only [sA_same, sA_s, ud_s, Int.reduceEq, if_true, if_false, ite_true, ite_false, ↓reduceIte, and_true, true_and, eq_self, Int.add_zero, Int.reduceAdd]; omega)) ?_
    refine v_aload_n (n := 11) xB_165 dX11_putsOut_10 rfl rfl ?_
    refine v_gf_s (n := 14) (kz := 1) xB_165 dX11_putsOut_11 xO_165 fl_11_13 fg_11_1 (sh_81 _ _ _) rfl st_81_1 rfl ?_
    refine v_iload_n (n := 15) xB_165 dX11_putsOut_14 rfl rfl ?_
    refine v_iaload (n := 16) (lz := 5) xB_165 dX11_putsOut_15 (sh_82 _ _ _) rfl (by first | omega | (simp only [sA_same, sA_s, ud_s, Int.reduceEq, if_true, if_false, ite_true, ite_false, ↓reduceIte, and_true, true_and, eq_self, Int.add_zero, Int.reduceAdd]; omega)) rfl ?_
    refine v_iconst (n := 17) xB_165 dX11_putsOut_16 ⟨by decide, by decide⟩ rfl ?_
    refine v_ic_eq_n (n := 20) xB_165 dX11_putsOut_17 (by decide) rfl (by first | omega | (simp only [sA_same, sA_s, ud_s, Int.reduceEq, if_true, if_false, ite_true, ite_false, ↓reduceIte, and_true, true_and, eq_self, Int.add_zero, Int.reduceAdd]; omega)) ?_
    refine v_aload_n (n := 21) xB_165 dX11_putsOut_20 rfl rfl ?_
    refine v_gf_s (n := 24) (kz := 1) xB_165 dX11_putsOut_21 xO_165 fl_11_13 fg_11_1 (sh_81 _ _ _) rfl st_81_1 rfl ?_
    refine v_iload_n (n := 25) xB_165 dX11_putsOut_24 rfl rfl ?_
    refine v_iaload (n := 26) (lz := 5) xB_165 dX11_putsOut_25 (sh_82 _ _ _) rfl (by first | omega | (simp only [sA_same, sA_s, ud_s, Int.reduceEq, if_true, if_false, ite_true, ite_false, ↓reduceIte, and_true, true_and, eq_self, Int.add_zero, Int.reduceAdd]; omega)) rfl ?_
    refine v_iconst (n := 27) xB_165 dX11_putsOut_26 ⟨by decide, by decide⟩ rfl ?_
    refine v_ic_eq_y (t := 40) xB_165 dX11_putsOut_27 (by decide) rfl (by first | omega | (simp only [sA_same, sA_s, ud_s, Int.reduceEq, if_true, if_false, ite_true, ite_false, ↓reduceIte, and_true, true_and, eq_self, Int.add_zero, Int.reduceAdd]; omega)) ?_
    refine v_aload_n (n := 41) xB_165 dX11_putsOut_40 rfl rfl ?_
    refine v_iload_n (n := 42) xB_165 dX11_putsOut_41 rfl rfl ?_
    refine v_call_v (n := 45) xB_165 dX11_putsOut_42 xO_165 iv_11_303 rfl (sh_81 _ _ _) rfl rfl rfl ?_
    refine c_over (by omega) (by first | omega | (simp only [sA_same, sA_s, ud_s, Int.reduceEq, if_true, if_false, ite_true, ite_false, ↓reduceIte, and_true, true_and, eq_self, Int.add_zero, Int.reduceAdd]; omega)) (by first | assumption | (simp only [sA_same, sA_s, ud_s, Int.reduceEq, if_true, if_false, ite_true, ite_false, ↓reduceIte, and_true, true_and, eq_self, Int.add_zero, Int.reduceAdd]; assumption)) ?_
    (try simp (disch := omega) only [sA_same, sA_ne, sA_sA, sA_sr, sB_s, ud_eq, ud_ne, ud_ud, ud_sr, uB_s, Int.add_zero, Int.reduceAdd])
    refine v_aload_n (n := 46) xB_165 dX11_putsOut_45 rfl rfl ?_
    refine v_gf_s (n := 49) (kz := 1) xB_165 dX11_putsOut_46 xO_165 fl_11_13 fg_11_1 (sh_81 _ _ _) rfl st_81_1 rfl ?_
    refine v_iload_n (n := 50) xB_165 dX11_putsOut_49 rfl rfl ?_
    refine v_iaload (n := 51) (lz := 5) xB_165 dX11_putsOut_50 (sh_82 _ _ _) rfl (by first | omega | (simp only [sA_same, sA_s, ud_s, Int.reduceEq, if_true, if_false, ite_true, ite_false, ↓reduceIte, and_true, true_and, eq_self, Int.add_zero, Int.reduceAdd]; omega)) rfl ?_
    refine v_iconst (n := 52) xB_165 dX11_putsOut_51 ⟨by decide, by decide⟩ rfl ?_
    refine v_ic_eq_y (t := 65) xB_165 dX11_putsOut_52 (by decide) rfl (by first | omega | (simp only [sA_same, sA_s, ud_s, Int.reduceEq, if_true, if_false, ite_true, ite_false, ↓reduceIte, and_true, true_and, eq_self, Int.add_zero, Int.reduceAdd]; omega)) ?_
    refine v_aload_n (n := 66) xB_165 dX11_putsOut_65 rfl rfl ?_
    refine v_iload_n (n := 67) xB_165 dX11_putsOut_66 rfl rfl ?_
    refine v_call_v (n := 70) xB_165 dX11_putsOut_67 xO_165 iv_11_309 rfl (sh_81 _ _ _) rfl rfl rfl ?_
    refine c_about (by omega) (by first | omega | (simp only [sA_same, sA_s, ud_s, Int.reduceEq, if_true, if_false, ite_true, ite_false, ↓reduceIte, and_true, true_and, eq_self, Int.add_zero, Int.reduceAdd]; omega)) (by simp (disch := omega) only [sA_same, sA_ne]; first | assumption | exact bl_ud (bl_ud hb (by omega) _) (by omega) _) ?_
    (try simp (disch := omega) only [sA_same, sA_ne, sA_sA, sA_sr, sB_s, ud_eq, ud_ne, ud_ud, ud_sr, uB_s, Int.add_zero, Int.reduceAdd])
    refine v_iconst (n := 71) xB_165 dX11_putsOut_70 ⟨by decide, by decide⟩ rfl ?_
    refine v_istore_n3 (n := 72) xB_165 dX11_putsOut_71 rfl rfl ?_
    refine v_iload_n (n := 73) xB_165 dX11_putsOut_72 rfl rfl ?_
    refine v_iconst (n := 74) xB_165 dX11_putsOut_73 ⟨by decide, by decide⟩ rfl ?_
    refine v_ic_ge_n (n := 77) xB_165 dX11_putsOut_74 (by decide) rfl (by decide) ?_
    refine v_aload_n (n := 78) xB_165 dX11_putsOut_77 rfl rfl ?_
    refine v_gf_s (n := 81) (kz := 24) xB_165 dX11_putsOut_78 xO_165 fl_11_84 fg_11_24 (sh_81 _ _ _) rfl st_81_24 rfl ?_
    refine v_iconst (n := 82) xB_165 dX11_putsOut_81 ⟨by decide, by decide⟩ rfl ?_
    refine v_aload_n (n := 83) xB_165 dX11_putsOut_82 rfl rfl ?_
    refine v_gf_i (n := 86) (kz := 29) xB_165 dX11_putsOut_83 xO_165 fl_11_99 fg_11_29 rfl (sh_81 _ _ _) rfl rfl ?_
    refine v_imul (n := 87) xB_165 dX11_putsOut_86 (by first | omega | (simp only [sA_same, sA_s, ud_s, Int.reduceEq, if_true, if_false, ite_true, ite_false, ↓reduceIte, and_true, true_and, eq_self, Int.add_zero, Int.reduceAdd]; omega)) rfl ?_
    refine v_iload_n (n := 88) xB_165 dX11_putsOut_87 rfl rfl ?_
    refine v_iadd (n := 89) xB_165 dX11_putsOut_88 (by first | omega | (simp only [sA_same, sA_s, ud_s, Int.reduceEq, if_true, if_false, ite_true, ite_false, ↓reduceIte, and_true, true_and, eq_self, Int.add_zero, Int.reduceAdd]; omega)) rfl ?_
    refine v_aload_n (n := 90) xB_165 dX11_putsOut_89 rfl rfl ?_
    refine v_gf_s (n := 93) (kz := 23) xB_165 dX11_putsOut_90 xO_165 fl_11_81 fg_11_23 (sh_81 _ _ _) rfl st_81_23 rfl ?_
    refine v_iconst (n := 94) xB_165 dX11_putsOut_93 ⟨by decide, by decide⟩ rfl ?_
    refine v_iload_n (n := 95) xB_165 dX11_putsOut_94 rfl rfl ?_
    refine v_imul (n := 96) xB_165 dX11_putsOut_95 (by first | omega | (simp only [sA_same, sA_s, ud_s, Int.reduceEq, if_true, if_false, ite_true, ite_false, ↓reduceIte, and_true, true_and, eq_self, Int.add_zero, Int.reduceAdd]; omega)) rfl ?_
    refine v_iload_n (n := 97) xB_165 dX11_putsOut_96 rfl rfl ?_
    refine v_iadd (n := 98) xB_165 dX11_putsOut_97 (by first | omega | (simp only [sA_same, sA_s, ud_s, Int.reduceEq, if_true, if_false, ite_true, ite_false, ↓reduceIte, and_true, true_and, eq_self, Int.add_zero, Int.reduceAdd]; omega)) rfl ?_
    refine v_iaload (n := 99) (lz := 24) xB_165 dX11_putsOut_98 (sh_96 _ _ _) rfl (by first | omega | (simp only [sA_same, sA_s, ud_s, Int.reduceEq, if_true, if_false, ite_true, ite_false, ↓reduceIte, and_true, true_and, eq_self, Int.add_zero, Int.reduceAdd]; omega)) rfl ?_
    refine v_iastore (n := 100) (lz := 24) xB_165 dX11_putsOut_99 (sh_97 _ _ _) (by decide) rfl (by first | omega | (simp only [sA_same, sA_s, ud_s, Int.reduceEq, if_true, if_false, ite_true, ite_false, ↓reduceIte, and_true, true_and, eq_self, Int.add_zero, Int.reduceAdd]; omega)) rfl ?_
    (try simp (disch := omega) only [sA_same, sA_ne, sA_sA, sA_sr, sB_s, ud_eq, ud_ne, ud_ud, ud_sr, uB_s, Int.add_zero, Int.reduceAdd])
    refine v_aload_n (n := 101) xB_165 dX11_putsOut_100 rfl rfl ?_
    refine v_gf_s (n := 104) (kz := 27) xB_165 dX11_putsOut_101 xO_165 fl_11_93 fg_11_27 (sh_81 _ _ _) rfl st_81_27 rfl ?_
    refine v_iconst (n := 105) xB_165 dX11_putsOut_104 ⟨by decide, by decide⟩ rfl ?_
    refine v_aload_n (n := 106) xB_165 dX11_putsOut_105 rfl rfl ?_
    refine v_gf_i (n := 109) (kz := 29) xB_165 dX11_putsOut_106 xO_165 fl_11_99 fg_11_29 rfl (sh_81 _ _ _) rfl rfl ?_
    refine v_imul (n := 110) xB_165 dX11_putsOut_109 (by first | omega | (simp only [sA_same, sA_s, ud_s, Int.reduceEq, if_true, if_false, ite_true, ite_false, ↓reduceIte, and_true, true_and, eq_self, Int.add_zero, Int.reduceAdd]; omega)) rfl ?_
    refine v_iload_n (n := 111) xB_165 dX11_putsOut_110 rfl rfl ?_
    refine v_iadd (n := 112) xB_165 dX11_putsOut_111 (by first | omega | (simp only [sA_same, sA_s, ud_s, Int.reduceEq, if_true, if_false, ite_true, ite_false, ↓reduceIte, and_true, true_and, eq_self, Int.add_zero, Int.reduceAdd]; omega)) rfl ?_
    refine v_aload_n (n := 113) xB_165 dX11_putsOut_112 rfl rfl ?_
    refine v_gf_s (n := 116) (kz := 26) xB_165 dX11_putsOut_113 xO_165 fl_11_90 fg_11_26 (sh_81 _ _ _) rfl st_81_26 rfl ?_
    refine v_iconst (n := 117) xB_165 dX11_putsOut_116 ⟨by decide, by decide⟩ rfl ?_
    refine v_iload_n (n := 118) xB_165 dX11_putsOut_117 rfl rfl ?_
    refine v_imul (n := 119) xB_165 dX11_putsOut_118 (by first | omega | (simp only [sA_same, sA_s, ud_s, Int.reduceEq, if_true, if_false, ite_true, ite_false, ↓reduceIte, and_true, true_and, eq_self, Int.add_zero, Int.reduceAdd]; omega)) rfl ?_
    refine v_iload_n (n := 120) xB_165 dX11_putsOut_119 rfl rfl ?_
    refine v_iadd (n := 121) xB_165 dX11_putsOut_120 (by first | omega | (simp only [sA_same, sA_s, ud_s, Int.reduceEq, if_true, if_false, ite_true, ite_false, ↓reduceIte, and_true, true_and, eq_self, Int.add_zero, Int.reduceAdd]; omega)) rfl ?_
    refine v_baload (n := 122) (lz := 24) xB_165 dX11_putsOut_121 (sh_99 _ _ _) rfl (by first | omega | (simp only [sA_same, sA_s, ud_s, Int.reduceEq, if_true, if_false, ite_true, ite_false, ↓reduceIte, and_true, true_and, eq_self, Int.add_zero, Int.reduceAdd]; omega)) rfl ?_
    refine v_bastore01 (n := 123) (lz := 24) xB_165 dX11_putsOut_122 (sh_100 _ _ _) (by decide) rfl (by first | omega | (simp only [sA_same, sA_s, ud_s, Int.reduceEq, if_true, if_false, ite_true, ite_false, ↓reduceIte, and_true, true_and, eq_self, Int.add_zero, Int.reduceAdd]; omega)) (by first | omega | (simp only [sA_same, sA_s, ud_s, Int.reduceEq, if_true, if_false, ite_true, ite_false, ↓reduceIte, and_true, true_and, eq_self, Int.add_zero, Int.reduceAdd]; omega)) rfl ?_
    (try simp (disch := omega) only [sA_same, sA_ne, sA_sA, sA_sr, sB_s, ud_eq, ud_ne, ud_ud, ud_sr, uB_s, Int.add_zero, Int.reduceAdd])
    refine v_iinc3 (n := 126) xB_165 dX11_putsOut_123 rfl (by first | omega | (simp only [sA_same, sA_s, ud_s, Int.reduceEq, if_true, if_false, ite_true, ite_false, ↓reduceIte, and_true, true_and, eq_self, Int.add_zero, Int.reduceAdd]; omega)) rfl ?_
    refine v_goto (t := 72) xB_165 dX11_putsOut_126 (by decide) rfl ?_
    refine v_iload_n (n := 73) xB_165 dX11_putsOut_72 rfl rfl ?_
    refine v_iconst (n := 74) xB_165 dX11_putsOut_73 ⟨by decide, by decide⟩ rfl ?_
    refine v_ic_ge_n (n := 77) xB_165 dX11_putsOut_74 (by decide) rfl (by decide) ?_
    refine v_aload_n (n := 78) xB_165 dX11_putsOut_77 rfl rfl ?_
    refine v_gf_s (n := 81) (kz := 24) xB_165 dX11_putsOut_78 xO_165 fl_11_84 fg_11_24 (sh_81 _ _ _) rfl st_81_24 rfl ?_
    refine v_iconst (n := 82) xB_165 dX11_putsOut_81 ⟨by decide, by decide⟩ rfl ?_
    refine v_aload_n (n := 83) xB_165 dX11_putsOut_82 rfl rfl ?_
    refine v_gf_i (n := 86) (kz := 29) xB_165 dX11_putsOut_83 xO_165 fl_11_99 fg_11_29 rfl (sh_81 _ _ _) rfl rfl ?_
    refine v_imul (n := 87) xB_165 dX11_putsOut_86 (by first | omega | (simp only [sA_same, sA_s, ud_s, Int.reduceEq, if_true, if_false, ite_true, ite_false, ↓reduceIte, and_true, true_and, eq_self, Int.add_zero, Int.reduceAdd]; omega)) rfl ?_
    refine v_iload_n (n := 88) xB_165 dX11_putsOut_87 rfl rfl ?_
    refine v_iadd (n := 89) xB_165 dX11_putsOut_88 (by first | omega | (simp only [sA_same, sA_s, ud_s, Int.reduceEq, if_true, if_false, ite_true, ite_false, ↓reduceIte, and_true, true_and, eq_self, Int.add_zero, Int.reduceAdd]; omega)) rfl ?_
    refine v_aload_n (n := 90) xB_165 dX11_putsOut_89 rfl rfl ?_
    refine v_gf_s (n := 93) (kz := 23) xB_165 dX11_putsOut_90 xO_165 fl_11_81 fg_11_23 (sh_81 _ _ _) rfl st_81_23 rfl ?_
    refine v_iconst (n := 94) xB_165 dX11_putsOut_93 ⟨by decide, by decide⟩ rfl ?_
    refine v_iload_n (n := 95) xB_165 dX11_putsOut_94 rfl rfl ?_
    refine v_imul (n := 96) xB_165 dX11_putsOut_95 (by first | omega | (simp only [sA_same, sA_s, ud_s, Int.reduceEq, if_true, if_false, ite_true, ite_false, ↓reduceIte, and_true, true_and, eq_self, Int.add_zero, Int.reduceAdd]; omega)) rfl ?_
    refine v_iload_n (n := 97) xB_165 dX11_putsOut_96 rfl rfl ?_
    refine v_iadd (n := 98) xB_165 dX11_putsOut_97 (by first | omega | (simp only [sA_same, sA_s, ud_s, Int.reduceEq, if_true, if_false, ite_true, ite_false, ↓reduceIte, and_true, true_and, eq_self, Int.add_zero, Int.reduceAdd]; omega)) rfl ?_
    refine v_iaload (n := 99) (lz := 24) xB_165 dX11_putsOut_98 (sh_96 _ _ _) rfl (by first | omega | (simp only [sA_same, sA_s, ud_s, Int.reduceEq, if_true, if_false, ite_true, ite_false, ↓reduceIte, and_true, true_and, eq_self, Int.add_zero, Int.reduceAdd]; omega)) rfl ?_
    refine v_iastore (n := 100) (lz := 24) xB_165 dX11_putsOut_99 (sh_97 _ _ _) (by decide) rfl (by first | omega | (simp only [sA_same, sA_s, ud_s, Int.reduceEq, if_true, if_false, ite_true, ite_false, ↓reduceIte, and_true, true_and, eq_self, Int.add_zero, Int.reduceAdd]; omega)) rfl ?_
    (try simp (disch := omega) only [sA_same, sA_ne, sA_sA, sA_sr, sB_s, ud_eq, ud_ne, ud_ud, ud_sr, uB_s, Int.add_zero, Int.reduceAdd])
    refine v_aload_n (n := 101) xB_165 dX11_putsOut_100 rfl rfl ?_
    refine v_gf_s (n := 104) (kz := 27) xB_165 dX11_putsOut_101 xO_165 fl_11_93 fg_11_27 (sh_81 _ _ _) rfl st_81_27 rfl ?_
    refine v_iconst (n := 105) xB_165 dX11_putsOut_104 ⟨by decide, by decide⟩ rfl ?_
    refine v_aload_n (n := 106) xB_165 dX11_putsOut_105 rfl rfl ?_
    refine v_gf_i (n := 109) (kz := 29) xB_165 dX11_putsOut_106 xO_165 fl_11_99 fg_11_29 rfl (sh_81 _ _ _) rfl rfl ?_
    refine v_imul (n := 110) xB_165 dX11_putsOut_109 (by first | omega | (simp only [sA_same, sA_s, ud_s, Int.reduceEq, if_true, if_false, ite_true, ite_false, ↓reduceIte, and_true, true_and, eq_self, Int.add_zero, Int.reduceAdd]; omega)) rfl ?_
    refine v_iload_n (n := 111) xB_165 dX11_putsOut_110 rfl rfl ?_
    refine v_iadd (n := 112) xB_165 dX11_putsOut_111 (by first | omega | (simp only [sA_same, sA_s, ud_s, Int.reduceEq, if_true, if_false, ite_true, ite_false, ↓reduceIte, and_true, true_and, eq_self, Int.add_zero, Int.reduceAdd]; omega)) rfl ?_
    refine v_aload_n (n := 113) xB_165 dX11_putsOut_112 rfl rfl ?_
    refine v_gf_s (n := 116) (kz := 26) xB_165 dX11_putsOut_113 xO_165 fl_11_90 fg_11_26 (sh_81 _ _ _) rfl st_81_26 rfl ?_
    refine v_iconst (n := 117) xB_165 dX11_putsOut_116 ⟨by decide, by decide⟩ rfl ?_
    refine v_iload_n (n := 118) xB_165 dX11_putsOut_117 rfl rfl ?_
    refine v_imul (n := 119) xB_165 dX11_putsOut_118 (by first | omega | (simp only [sA_same, sA_s, ud_s, Int.reduceEq, if_true, if_false, ite_true, ite_false, ↓reduceIte, and_true, true_and, eq_self, Int.add_zero, Int.reduceAdd]; omega)) rfl ?_
    refine v_iload_n (n := 120) xB_165 dX11_putsOut_119 rfl rfl ?_
    refine v_iadd (n := 121) xB_165 dX11_putsOut_120 (by first | omega | (simp only [sA_same, sA_s, ud_s, Int.reduceEq, if_true, if_false, ite_true, ite_false, ↓reduceIte, and_true, true_and, eq_self, Int.add_zero, Int.reduceAdd]; omega)) rfl ?_
    refine v_baload (n := 122) (lz := 24) xB_165 dX11_putsOut_121 (sh_99 _ _ _) rfl (by first | omega | (simp only [sA_same, sA_s, ud_s, Int.reduceEq, if_true, if_false, ite_true, ite_false, ↓reduceIte, and_true, true_and, eq_self, Int.add_zero, Int.reduceAdd]; omega)) rfl ?_
    refine v_bastore01 (n := 123) (lz := 24) xB_165 dX11_putsOut_122 (sh_100 _ _ _) (by decide) rfl (by first | omega | (simp only [sA_same, sA_s, ud_s, Int.reduceEq, if_true, if_false, ite_true, ite_false, ↓reduceIte, and_true, true_and, eq_self, Int.add_zero, Int.reduceAdd]; omega)) (by first | omega | (simp only [sA_same, sA_s, ud_s, Int.reduceEq, if_true, if_false, ite_true, ite_false, ↓reduceIte, and_true, true_and, eq_self, Int.add_zero, Int.reduceAdd]; omega)) rfl ?_
    (try simp (disch := omega) only [sA_same, sA_ne, sA_sA, sA_sr, sB_s, ud_eq, ud_ne, ud_ud, ud_sr, uB_s, Int.add_zero, Int.reduceAdd])
    refine v_iinc3 (n := 126) xB_165 dX11_putsOut_123 rfl (by first | omega | (simp only [sA_same, sA_s, ud_s, Int.reduceEq, if_true, if_false, ite_true, ite_false, ↓reduceIte, and_true, true_and, eq_self, Int.add_zero, Int.reduceAdd]; omega)) rfl ?_
    refine v_goto (t := 72) xB_165 dX11_putsOut_126 (by decide) rfl ?_
    refine v_iload_n (n := 73) xB_165 dX11_putsOut_72 rfl rfl ?_
    refine v_iconst (n := 74) xB_165 dX11_putsOut_73 ⟨by decide, by decide⟩ rfl ?_
    refine v_ic_ge_y (t := 129) xB_165 dX11_putsOut_74 (by decide) rfl (by decide) ?_
    refine v_aload_n (n := 130) xB_165 dX11_putsOut_129 rfl rfl ?_
    refine v_dup (n := 131) xB_165 dX11_putsOut_130 rfl rfl ?_
    refine v_gf_i (n := 134) (kz := 29) xB_165 dX11_putsOut_131 xO_165 fl_11_99 fg_11_29 rfl (sh_81 _ _ _) rfl rfl ?_
    refine v_iconst (n := 135) xB_165 dX11_putsOut_134 ⟨by decide, by decide⟩ rfl ?_
    refine v_iadd (n := 136) xB_165 dX11_putsOut_135 (by first | omega | (simp only [sA_same, sA_s, ud_s, Int.reduceEq, if_true, if_false, ite_true, ite_false, ↓reduceIte, and_true, true_and, eq_self, Int.add_zero, Int.reduceAdd]; omega)) rfl ?_
    refine v_pf_i (n := 139) (kz := 29) xB_165 dX11_putsOut_136 xO_165 fl_11_99 fg_11_29 (Or.inl fn_11_29) (sh_81 _ _ _) (by decide) rfl rfl ?_
    (try simp (disch := omega) only [sA_same, sA_ne, sA_sA, sA_sr, sB_s, ud_eq, ud_ne, ud_ud, ud_sr, uB_s, Int.add_zero, Int.reduceAdd])
    refine v_return xB_165 dX11_putsOut_139 xK_165 ?_
    (try simp (disch := omega) only [sA_same, sA_ne, sA_sA, sA_sr, sB_s, ud_eq, ud_ne, ud_ud, ud_sr, uB_s, Int.add_zero, Int.reduceAdd])
    (try rw [put_ins])
    refine o1 _ _ _ _ (by (repeat' first | assumption | refine bl_ud ?_ ?_ _) <;> omega) (by (repeat' first | assumption | refine pgs_ud ?_ ?_ _) <;> first | assumption | omega) (by (repeat' first | assumption | refine bl_ud ?_ ?_ _) <;> omega) (by (repeat' first | assumption | refine pgs_ud ?_ ?_ _) <;> first | assumption | omega) (fun x hx => ?_) (fun x => ?_)
    · first | rfl | (rw [pkA_s, pkA_s]; simp (disch := omega) only [ud_ne])
    · rw [pkA_s, pkA_s, pkA_s]
      by_cases hx : x = m 81 29
      · subst hx
        rw [if_pos rfl]
        simp (disch := omega) only [ud_eq, ud_ne]
        unfold lyF
        first | rw [if_pos (by omega), ov_pk (hp _) (hb _) (hp _) (hb _)] | rw [if_neg (by omega), if_pos (by omega), ov_pk (hp _) (hb _) (hp _) (hb _), abt_pk (hp _) (hb _) (hp _) (hb _)] | rw [if_neg (by omega), if_neg (by omega)]
      · rw [if_neg hx]
        simp (disch := omega) only [ud_ne]
  · skip
    refine v_aload_n (n := 1) xB_165 dX11_putsOut_0 rfl rfl ?_
    refine v_gf_s (n := 4) (kz := 1) xB_165 dX11_putsOut_1 xO_165 fl_11_13 fg_11_1 (sh_81 _ _ _) rfl st_81_1 rfl ?_
    refine v_iload_n (n := 5) xB_165 dX11_putsOut_4 rfl rfl ?_
    refine v_iaload (n := 6) (lz := 5) xB_165 dX11_putsOut_5 (sh_82 _ _ _) rfl (by first | omega | (simp only [sA_same, sA_s, ud_s, Int.reduceEq, if_true, if_false, ite_true, ite_false, ↓reduceIte, and_true, true_and, eq_self, Int.add_zero, Int.reduceAdd]; omega)) rfl ?_
    refine v_iconst (n := 7) xB_165 dX11_putsOut_6 ⟨by decide, by decide⟩ rfl ?_
    refine v_ic_eq_n (n := 10) xB_165 dX11_putsOut_7 (by decide) rfl (by first | omega | (simp only [sA_same, sA_s, ud_s, Int.reduceEq, if_true, if_false, ite_true, ite_false, ↓reduceIte, and_true, true_and, eq_self, Int.add_zero, Int.reduceAdd]; omega)) ?_
    refine v_aload_n (n := 11) xB_165 dX11_putsOut_10 rfl rfl ?_
    refine v_gf_s (n := 14) (kz := 1) xB_165 dX11_putsOut_11 xO_165 fl_11_13 fg_11_1 (sh_81 _ _ _) rfl st_81_1 rfl ?_
    refine v_iload_n (n := 15) xB_165 dX11_putsOut_14 rfl rfl ?_
    refine v_iaload (n := 16) (lz := 5) xB_165 dX11_putsOut_15 (sh_82 _ _ _) rfl (by first | omega | (simp only [sA_same, sA_s, ud_s, Int.reduceEq, if_true, if_false, ite_true, ite_false, ↓reduceIte, and_true, true_and, eq_self, Int.add_zero, Int.reduceAdd]; omega)) rfl ?_
    refine v_iconst (n := 17) xB_165 dX11_putsOut_16 ⟨by decide, by decide⟩ rfl ?_
    refine v_ic_eq_n (n := 20) xB_165 dX11_putsOut_17 (by decide) rfl (by first | omega | (simp only [sA_same, sA_s, ud_s, Int.reduceEq, if_true, if_false, ite_true, ite_false, ↓reduceIte, and_true, true_and, eq_self, Int.add_zero, Int.reduceAdd]; omega)) ?_
    refine v_aload_n (n := 21) xB_165 dX11_putsOut_20 rfl rfl ?_
    refine v_gf_s (n := 24) (kz := 1) xB_165 dX11_putsOut_21 xO_165 fl_11_13 fg_11_1 (sh_81 _ _ _) rfl st_81_1 rfl ?_
    refine v_iload_n (n := 25) xB_165 dX11_putsOut_24 rfl rfl ?_
    refine v_iaload (n := 26) (lz := 5) xB_165 dX11_putsOut_25 (sh_82 _ _ _) rfl (by first | omega | (simp only [sA_same, sA_s, ud_s, Int.reduceEq, if_true, if_false, ite_true, ite_false, ↓reduceIte, and_true, true_and, eq_self, Int.add_zero, Int.reduceAdd]; omega)) rfl ?_
    refine v_iconst (n := 27) xB_165 dX11_putsOut_26 ⟨by decide, by decide⟩ rfl ?_
    refine v_ic_eq_n (n := 30) xB_165 dX11_putsOut_27 (by decide) rfl (by first | omega | (simp only [sA_same, sA_s, ud_s, Int.reduceEq, if_true, if_false, ite_true, ite_false, ↓reduceIte, and_true, true_and, eq_self, Int.add_zero, Int.reduceAdd]; omega)) ?_
    refine v_aload_n (n := 31) xB_165 dX11_putsOut_30 rfl rfl ?_
    refine v_gf_s (n := 34) (kz := 1) xB_165 dX11_putsOut_31 xO_165 fl_11_13 fg_11_1 (sh_81 _ _ _) rfl st_81_1 rfl ?_
    refine v_iload_n (n := 35) xB_165 dX11_putsOut_34 rfl rfl ?_
    refine v_iaload (n := 36) (lz := 5) xB_165 dX11_putsOut_35 (sh_82 _ _ _) rfl (by first | omega | (simp only [sA_same, sA_s, ud_s, Int.reduceEq, if_true, if_false, ite_true, ite_false, ↓reduceIte, and_true, true_and, eq_self, Int.add_zero, Int.reduceAdd]; omega)) rfl ?_
    refine v_iconst (n := 37) xB_165 dX11_putsOut_36 ⟨by decide, by decide⟩ rfl ?_
    refine v_ic_ne_y (t := 45) xB_165 dX11_putsOut_37 (by decide) rfl (by first | omega | (simp only [sA_same, sA_s, ud_s, Int.reduceEq, if_true, if_false, ite_true, ite_false, ↓reduceIte, and_true, true_and, eq_self, Int.add_zero, Int.reduceAdd]; omega)) ?_
    refine v_aload_n (n := 46) xB_165 dX11_putsOut_45 rfl rfl ?_
    refine v_gf_s (n := 49) (kz := 1) xB_165 dX11_putsOut_46 xO_165 fl_11_13 fg_11_1 (sh_81 _ _ _) rfl st_81_1 rfl ?_
    refine v_iload_n (n := 50) xB_165 dX11_putsOut_49 rfl rfl ?_
    refine v_iaload (n := 51) (lz := 5) xB_165 dX11_putsOut_50 (sh_82 _ _ _) rfl (by first | omega | (simp only [sA_same, sA_s, ud_s, Int.reduceEq, if_true, if_false, ite_true, ite_false, ↓reduceIte, and_true, true_and, eq_self, Int.add_zero, Int.reduceAdd]; omega)) rfl ?_
    refine v_iconst (n := 52) xB_165 dX11_putsOut_51 ⟨by decide, by decide⟩ rfl ?_
    refine v_ic_eq_n (n := 55) xB_165 dX11_putsOut_52 (by decide) rfl (by first | omega | (simp only [sA_same, sA_s, ud_s, Int.reduceEq, if_true, if_false, ite_true, ite_false, ↓reduceIte, and_true, true_and, eq_self, Int.add_zero, Int.reduceAdd]; omega)) ?_
    refine v_aload_n (n := 56) xB_165 dX11_putsOut_55 rfl rfl ?_
    refine v_gf_s (n := 59) (kz := 1) xB_165 dX11_putsOut_56 xO_165 fl_11_13 fg_11_1 (sh_81 _ _ _) rfl st_81_1 rfl ?_
    refine v_iload_n (n := 60) xB_165 dX11_putsOut_59 rfl rfl ?_
    refine v_iaload (n := 61) (lz := 5) xB_165 dX11_putsOut_60 (sh_82 _ _ _) rfl (by first | omega | (simp only [sA_same, sA_s, ud_s, Int.reduceEq, if_true, if_false, ite_true, ite_false, ↓reduceIte, and_true, true_and, eq_self, Int.add_zero, Int.reduceAdd]; omega)) rfl ?_
    refine v_iconst (n := 62) xB_165 dX11_putsOut_61 ⟨by decide, by decide⟩ rfl ?_
    refine v_ic_ne_y (t := 70) xB_165 dX11_putsOut_62 (by decide) rfl (by first | omega | (simp only [sA_same, sA_s, ud_s, Int.reduceEq, if_true, if_false, ite_true, ite_false, ↓reduceIte, and_true, true_and, eq_self, Int.add_zero, Int.reduceAdd]; omega)) ?_
    refine v_iconst (n := 71) xB_165 dX11_putsOut_70 ⟨by decide, by decide⟩ rfl ?_
    refine v_istore_n3 (n := 72) xB_165 dX11_putsOut_71 rfl rfl ?_
    refine v_iload_n (n := 73) xB_165 dX11_putsOut_72 rfl rfl ?_
    refine v_iconst (n := 74) xB_165 dX11_putsOut_73 ⟨by decide, by decide⟩ rfl ?_
    refine v_ic_ge_n (n := 77) xB_165 dX11_putsOut_74 (by decide) rfl (by decide) ?_
    refine v_aload_n (n := 78) xB_165 dX11_putsOut_77 rfl rfl ?_
    refine v_gf_s (n := 81) (kz := 24) xB_165 dX11_putsOut_78 xO_165 fl_11_84 fg_11_24 (sh_81 _ _ _) rfl st_81_24 rfl ?_
    refine v_iconst (n := 82) xB_165 dX11_putsOut_81 ⟨by decide, by decide⟩ rfl ?_
    refine v_aload_n (n := 83) xB_165 dX11_putsOut_82 rfl rfl ?_
    refine v_gf_i (n := 86) (kz := 29) xB_165 dX11_putsOut_83 xO_165 fl_11_99 fg_11_29 rfl (sh_81 _ _ _) rfl rfl ?_
    refine v_imul (n := 87) xB_165 dX11_putsOut_86 (by first | omega | (simp only [sA_same, sA_s, ud_s, Int.reduceEq, if_true, if_false, ite_true, ite_false, ↓reduceIte, and_true, true_and, eq_self, Int.add_zero, Int.reduceAdd]; omega)) rfl ?_
    refine v_iload_n (n := 88) xB_165 dX11_putsOut_87 rfl rfl ?_
    refine v_iadd (n := 89) xB_165 dX11_putsOut_88 (by first | omega | (simp only [sA_same, sA_s, ud_s, Int.reduceEq, if_true, if_false, ite_true, ite_false, ↓reduceIte, and_true, true_and, eq_self, Int.add_zero, Int.reduceAdd]; omega)) rfl ?_
    refine v_aload_n (n := 90) xB_165 dX11_putsOut_89 rfl rfl ?_
    refine v_gf_s (n := 93) (kz := 23) xB_165 dX11_putsOut_90 xO_165 fl_11_81 fg_11_23 (sh_81 _ _ _) rfl st_81_23 rfl ?_
    refine v_iconst (n := 94) xB_165 dX11_putsOut_93 ⟨by decide, by decide⟩ rfl ?_
    refine v_iload_n (n := 95) xB_165 dX11_putsOut_94 rfl rfl ?_
    refine v_imul (n := 96) xB_165 dX11_putsOut_95 (by first | omega | (simp only [sA_same, sA_s, ud_s, Int.reduceEq, if_true, if_false, ite_true, ite_false, ↓reduceIte, and_true, true_and, eq_self, Int.add_zero, Int.reduceAdd]; omega)) rfl ?_
    refine v_iload_n (n := 97) xB_165 dX11_putsOut_96 rfl rfl ?_
    refine v_iadd (n := 98) xB_165 dX11_putsOut_97 (by first | omega | (simp only [sA_same, sA_s, ud_s, Int.reduceEq, if_true, if_false, ite_true, ite_false, ↓reduceIte, and_true, true_and, eq_self, Int.add_zero, Int.reduceAdd]; omega)) rfl ?_
    refine v_iaload (n := 99) (lz := 24) xB_165 dX11_putsOut_98 (sh_96 _ _ _) rfl (by first | omega | (simp only [sA_same, sA_s, ud_s, Int.reduceEq, if_true, if_false, ite_true, ite_false, ↓reduceIte, and_true, true_and, eq_self, Int.add_zero, Int.reduceAdd]; omega)) rfl ?_
    refine v_iastore (n := 100) (lz := 24) xB_165 dX11_putsOut_99 (sh_97 _ _ _) (by decide) rfl (by first | omega | (simp only [sA_same, sA_s, ud_s, Int.reduceEq, if_true, if_false, ite_true, ite_false, ↓reduceIte, and_true, true_and, eq_self, Int.add_zero, Int.reduceAdd]; omega)) rfl ?_
    (try simp (disch := omega) only [sA_same, sA_ne, sA_sA, sA_sr, sB_s, ud_eq, ud_ne, ud_ud, ud_sr, uB_s, Int.add_zero, Int.reduceAdd])
    refine v_aload_n (n := 101) xB_165 dX11_putsOut_100 rfl rfl ?_
    refine v_gf_s (n := 104) (kz := 27) xB_165 dX11_putsOut_101 xO_165 fl_11_93 fg_11_27 (sh_81 _ _ _) rfl st_81_27 rfl ?_
    refine v_iconst (n := 105) xB_165 dX11_putsOut_104 ⟨by decide, by decide⟩ rfl ?_
    refine v_aload_n (n := 106) xB_165 dX11_putsOut_105 rfl rfl ?_
    refine v_gf_i (n := 109) (kz := 29) xB_165 dX11_putsOut_106 xO_165 fl_11_99 fg_11_29 rfl (sh_81 _ _ _) rfl rfl ?_
    refine v_imul (n := 110) xB_165 dX11_putsOut_109 (by first | omega | (simp only [sA_same, sA_s, ud_s, Int.reduceEq, if_true, if_false, ite_true, ite_false, ↓reduceIte, and_true, true_and, eq_self, Int.add_zero, Int.reduceAdd]; omega)) rfl ?_
    refine v_iload_n (n := 111) xB_165 dX11_putsOut_110 rfl rfl ?_
    refine v_iadd (n := 112) xB_165 dX11_putsOut_111 (by first | omega | (simp only [sA_same, sA_s, ud_s, Int.reduceEq, if_true, if_false, ite_true, ite_false, ↓reduceIte, and_true, true_and, eq_self, Int.add_zero, Int.reduceAdd]; omega)) rfl ?_
    refine v_aload_n (n := 113) xB_165 dX11_putsOut_112 rfl rfl ?_
    refine v_gf_s (n := 116) (kz := 26) xB_165 dX11_putsOut_113 xO_165 fl_11_90 fg_11_26 (sh_81 _ _ _) rfl st_81_26 rfl ?_
    refine v_iconst (n := 117) xB_165 dX11_putsOut_116 ⟨by decide, by decide⟩ rfl ?_
    refine v_iload_n (n := 118) xB_165 dX11_putsOut_117 rfl rfl ?_
    refine v_imul (n := 119) xB_165 dX11_putsOut_118 (by first | omega | (simp only [sA_same, sA_s, ud_s, Int.reduceEq, if_true, if_false, ite_true, ite_false, ↓reduceIte, and_true, true_and, eq_self, Int.add_zero, Int.reduceAdd]; omega)) rfl ?_
    refine v_iload_n (n := 120) xB_165 dX11_putsOut_119 rfl rfl ?_
    refine v_iadd (n := 121) xB_165 dX11_putsOut_120 (by first | omega | (simp only [sA_same, sA_s, ud_s, Int.reduceEq, if_true, if_false, ite_true, ite_false, ↓reduceIte, and_true, true_and, eq_self, Int.add_zero, Int.reduceAdd]; omega)) rfl ?_
    refine v_baload (n := 122) (lz := 24) xB_165 dX11_putsOut_121 (sh_99 _ _ _) rfl (by first | omega | (simp only [sA_same, sA_s, ud_s, Int.reduceEq, if_true, if_false, ite_true, ite_false, ↓reduceIte, and_true, true_and, eq_self, Int.add_zero, Int.reduceAdd]; omega)) rfl ?_
    refine v_bastore01 (n := 123) (lz := 24) xB_165 dX11_putsOut_122 (sh_100 _ _ _) (by decide) rfl (by first | omega | (simp only [sA_same, sA_s, ud_s, Int.reduceEq, if_true, if_false, ite_true, ite_false, ↓reduceIte, and_true, true_and, eq_self, Int.add_zero, Int.reduceAdd]; omega)) (by first | omega | (simp only [sA_same, sA_s, ud_s, Int.reduceEq, if_true, if_false, ite_true, ite_false, ↓reduceIte, and_true, true_and, eq_self, Int.add_zero, Int.reduceAdd]; omega)) rfl ?_
    (try simp (disch := omega) only [sA_same, sA_ne, sA_sA, sA_sr, sB_s, ud_eq, ud_ne, ud_ud, ud_sr, uB_s, Int.add_zero, Int.reduceAdd])
    refine v_iinc3 (n := 126) xB_165 dX11_putsOut_123 rfl (by first | omega | (simp only [sA_same, sA_s, ud_s, Int.reduceEq, if_true, if_false, ite_true, ite_false, ↓reduceIte, and_true, true_and, eq_self, Int.add_zero, Int.reduceAdd]; omega)) rfl ?_
    refine v_goto (t := 72) xB_165 dX11_putsOut_126 (by decide) rfl ?_
    refine v_iload_n (n := 73) xB_165 dX11_putsOut_72 rfl rfl ?_
    refine v_iconst (n := 74) xB_165 dX11_putsOut_73 ⟨by decide, by decide⟩ rfl ?_
    refine v_ic_ge_n (n := 77) xB_165 dX11_putsOut_74 (by decide) rfl (by decide) ?_
    refine v_aload_n (n := 78) xB_165 dX11_putsOut_77 rfl rfl ?_
    refine v_gf_s (n := 81) (kz := 24) xB_165 dX11_putsOut_78 xO_165 fl_11_84 fg_11_24 (sh_81 _ _ _) rfl st_81_24 rfl ?_
    refine v_iconst (n := 82) xB_165 dX11_putsOut_81 ⟨by decide, by decide⟩ rfl ?_
    refine v_aload_n (n := 83) xB_165 dX11_putsOut_82 rfl rfl ?_
    refine v_gf_i (n := 86) (kz := 29) xB_165 dX11_putsOut_83 xO_165 fl_11_99 fg_11_29 rfl (sh_81 _ _ _) rfl rfl ?_
    refine v_imul (n := 87) xB_165 dX11_putsOut_86 (by first | omega | (simp only [sA_same, sA_s, ud_s, Int.reduceEq, if_true, if_false, ite_true, ite_false, ↓reduceIte, and_true, true_and, eq_self, Int.add_zero, Int.reduceAdd]; omega)) rfl ?_
    refine v_iload_n (n := 88) xB_165 dX11_putsOut_87 rfl rfl ?_
    refine v_iadd (n := 89) xB_165 dX11_putsOut_88 (by first | omega | (simp only [sA_same, sA_s, ud_s, Int.reduceEq, if_true, if_false, ite_true, ite_false, ↓reduceIte, and_true, true_and, eq_self, Int.add_zero, Int.reduceAdd]; omega)) rfl ?_
    refine v_aload_n (n := 90) xB_165 dX11_putsOut_89 rfl rfl ?_
    refine v_gf_s (n := 93) (kz := 23) xB_165 dX11_putsOut_90 xO_165 fl_11_81 fg_11_23 (sh_81 _ _ _) rfl st_81_23 rfl ?_
    refine v_iconst (n := 94) xB_165 dX11_putsOut_93 ⟨by decide, by decide⟩ rfl ?_
    refine v_iload_n (n := 95) xB_165 dX11_putsOut_94 rfl rfl ?_
    refine v_imul (n := 96) xB_165 dX11_putsOut_95 (by first | omega | (simp only [sA_same, sA_s, ud_s, Int.reduceEq, if_true, if_false, ite_true, ite_false, ↓reduceIte, and_true, true_and, eq_self, Int.add_zero, Int.reduceAdd]; omega)) rfl ?_
    refine v_iload_n (n := 97) xB_165 dX11_putsOut_96 rfl rfl ?_
    refine v_iadd (n := 98) xB_165 dX11_putsOut_97 (by first | omega | (simp only [sA_same, sA_s, ud_s, Int.reduceEq, if_true, if_false, ite_true, ite_false, ↓reduceIte, and_true, true_and, eq_self, Int.add_zero, Int.reduceAdd]; omega)) rfl ?_
    refine v_iaload (n := 99) (lz := 24) xB_165 dX11_putsOut_98 (sh_96 _ _ _) rfl (by first | omega | (simp only [sA_same, sA_s, ud_s, Int.reduceEq, if_true, if_false, ite_true, ite_false, ↓reduceIte, and_true, true_and, eq_self, Int.add_zero, Int.reduceAdd]; omega)) rfl ?_
    refine v_iastore (n := 100) (lz := 24) xB_165 dX11_putsOut_99 (sh_97 _ _ _) (by decide) rfl (by first | omega | (simp only [sA_same, sA_s, ud_s, Int.reduceEq, if_true, if_false, ite_true, ite_false, ↓reduceIte, and_true, true_and, eq_self, Int.add_zero, Int.reduceAdd]; omega)) rfl ?_
    (try simp (disch := omega) only [sA_same, sA_ne, sA_sA, sA_sr, sB_s, ud_eq, ud_ne, ud_ud, ud_sr, uB_s, Int.add_zero, Int.reduceAdd])
    refine v_aload_n (n := 101) xB_165 dX11_putsOut_100 rfl rfl ?_
    refine v_gf_s (n := 104) (kz := 27) xB_165 dX11_putsOut_101 xO_165 fl_11_93 fg_11_27 (sh_81 _ _ _) rfl st_81_27 rfl ?_
    refine v_iconst (n := 105) xB_165 dX11_putsOut_104 ⟨by decide, by decide⟩ rfl ?_
    refine v_aload_n (n := 106) xB_165 dX11_putsOut_105 rfl rfl ?_
    refine v_gf_i (n := 109) (kz := 29) xB_165 dX11_putsOut_106 xO_165 fl_11_99 fg_11_29 rfl (sh_81 _ _ _) rfl rfl ?_
    refine v_imul (n := 110) xB_165 dX11_putsOut_109 (by first | omega | (simp only [sA_same, sA_s, ud_s, Int.reduceEq, if_true, if_false, ite_true, ite_false, ↓reduceIte, and_true, true_and, eq_self, Int.add_zero, Int.reduceAdd]; omega)) rfl ?_
    refine v_iload_n (n := 111) xB_165 dX11_putsOut_110 rfl rfl ?_
    refine v_iadd (n := 112) xB_165 dX11_putsOut_111 (by first | omega | (simp only [sA_same, sA_s, ud_s, Int.reduceEq, if_true, if_false, ite_true, ite_false, ↓reduceIte, and_true, true_and, eq_self, Int.add_zero, Int.reduceAdd]; omega)) rfl ?_
    refine v_aload_n (n := 113) xB_165 dX11_putsOut_112 rfl rfl ?_
    refine v_gf_s (n := 116) (kz := 26) xB_165 dX11_putsOut_113 xO_165 fl_11_90 fg_11_26 (sh_81 _ _ _) rfl st_81_26 rfl ?_
    refine v_iconst (n := 117) xB_165 dX11_putsOut_116 ⟨by decide, by decide⟩ rfl ?_
    refine v_iload_n (n := 118) xB_165 dX11_putsOut_117 rfl rfl ?_
    refine v_imul (n := 119) xB_165 dX11_putsOut_118 (by first | omega | (simp only [sA_same, sA_s, ud_s, Int.reduceEq, if_true, if_false, ite_true, ite_false, ↓reduceIte, and_true, true_and, eq_self, Int.add_zero, Int.reduceAdd]; omega)) rfl ?_
    refine v_iload_n (n := 120) xB_165 dX11_putsOut_119 rfl rfl ?_
    refine v_iadd (n := 121) xB_165 dX11_putsOut_120 (by first | omega | (simp only [sA_same, sA_s, ud_s, Int.reduceEq, if_true, if_false, ite_true, ite_false, ↓reduceIte, and_true, true_and, eq_self, Int.add_zero, Int.reduceAdd]; omega)) rfl ?_
    refine v_baload (n := 122) (lz := 24) xB_165 dX11_putsOut_121 (sh_99 _ _ _) rfl (by first | omega | (simp only [sA_same, sA_s, ud_s, Int.reduceEq, if_true, if_false, ite_true, ite_false, ↓reduceIte, and_true, true_and, eq_self, Int.add_zero, Int.reduceAdd]; omega)) rfl ?_
    refine v_bastore01 (n := 123) (lz := 24) xB_165 dX11_putsOut_122 (sh_100 _ _ _) (by decide) rfl (by first | omega | (simp only [sA_same, sA_s, ud_s, Int.reduceEq, if_true, if_false, ite_true, ite_false, ↓reduceIte, and_true, true_and, eq_self, Int.add_zero, Int.reduceAdd]; omega)) (by first | omega | (simp only [sA_same, sA_s, ud_s, Int.reduceEq, if_true, if_false, ite_true, ite_false, ↓reduceIte, and_true, true_and, eq_self, Int.add_zero, Int.reduceAdd]; omega)) rfl ?_
    (try simp (disch := omega) only [sA_same, sA_ne, sA_sA, sA_sr, sB_s, ud_eq, ud_ne, ud_ud, ud_sr, uB_s, Int.add_zero, Int.reduceAdd])
    refine v_iinc3 (n := 126) xB_165 dX11_putsOut_123 rfl (by first | omega | (simp only [sA_same, sA_s, ud_s, Int.reduceEq, if_true, if_false, ite_true, ite_false, ↓reduceIte, and_true, true_and, eq_self, Int.add_zero, Int.reduceAdd]; omega)) rfl ?_
    refine v_goto (t := 72) xB_165 dX11_putsOut_126 (by decide) rfl ?_
    refine v_iload_n (n := 73) xB_165 dX11_putsOut_72 rfl rfl ?_
    refine v_iconst (n := 74) xB_165 dX11_putsOut_73 ⟨by decide, by decide⟩ rfl ?_
    refine v_ic_ge_y (t := 129) xB_165 dX11_putsOut_74 (by decide) rfl (by decide) ?_
    refine v_aload_n (n := 130) xB_165 dX11_putsOut_129 rfl rfl ?_
    refine v_dup (n := 131) xB_165 dX11_putsOut_130 rfl rfl ?_
    refine v_gf_i (n := 134) (kz := 29) xB_165 dX11_putsOut_131 xO_165 fl_11_99 fg_11_29 rfl (sh_81 _ _ _) rfl rfl ?_
    refine v_iconst (n := 135) xB_165 dX11_putsOut_134 ⟨by decide, by decide⟩ rfl ?_
    refine v_iadd (n := 136) xB_165 dX11_putsOut_135 (by first | omega | (simp only [sA_same, sA_s, ud_s, Int.reduceEq, if_true, if_false, ite_true, ite_false, ↓reduceIte, and_true, true_and, eq_self, Int.add_zero, Int.reduceAdd]; omega)) rfl ?_
    refine v_pf_i (n := 139) (kz := 29) xB_165 dX11_putsOut_136 xO_165 fl_11_99 fg_11_29 (Or.inl fn_11_29) (sh_81 _ _ _) (by decide) rfl rfl ?_
    (try simp (disch := omega) only [sA_same, sA_ne, sA_sA, sA_sr, sB_s, ud_eq, ud_ne, ud_ud, ud_sr, uB_s, Int.add_zero, Int.reduceAdd])
    refine v_return xB_165 dX11_putsOut_139 xK_165 ?_
    (try simp (disch := omega) only [sA_same, sA_ne, sA_sA, sA_sr, sB_s, ud_eq, ud_ne, ud_ud, ud_sr, uB_s, Int.add_zero, Int.reduceAdd])
    (try rw [put_ins])
    refine o1 _ _ _ _ (by (repeat' first | assumption | refine bl_ud ?_ ?_ _) <;> omega) (by (repeat' first | assumption | refine pgs_ud ?_ ?_ _) <;> first | assumption | omega) (by (repeat' first | assumption | refine bl_ud ?_ ?_ _) <;> omega) (by (repeat' first | assumption | refine pgs_ud ?_ ?_ _) <;> first | assumption | omega) (fun x hx => ?_) (fun x => ?_)
    · first | rfl | (rw [pkA_s, pkA_s]; simp (disch := omega) only [ud_ne])
    · rw [pkA_s, pkA_s, pkA_s]
      by_cases hx : x = m 81 29
      · subst hx
        rw [if_pos rfl]
        simp (disch := omega) only [ud_eq, ud_ne]
        unfold lyF
        first | rw [if_pos (by omega), ov_pk (hp _) (hb _) (hp _) (hb _)] | rw [if_neg (by omega), if_pos (by omega), ov_pk (hp _) (hb _) (hp _) (hb _), abt_pk (hp _) (hb _) (hp _) (hb _)] | rw [if_neg (by omega), if_neg (by omega)]
      · rw [if_neg hx]
        simp (disch := omega) only [ud_ne]
  · skip
    refine v_aload_n (n := 1) xB_165 dX11_putsOut_0 rfl rfl ?_
    refine v_gf_s (n := 4) (kz := 1) xB_165 dX11_putsOut_1 xO_165 fl_11_13 fg_11_1 (sh_81 _ _ _) rfl st_81_1 rfl ?_
    refine v_iload_n (n := 5) xB_165 dX11_putsOut_4 rfl rfl ?_
    refine v_iaload (n := 6) (lz := 5) xB_165 dX11_putsOut_5 (sh_82 _ _ _) rfl (by first | omega | (simp only [sA_same, sA_s, ud_s, Int.reduceEq, if_true, if_false, ite_true, ite_false, ↓reduceIte, and_true, true_and, eq_self, Int.add_zero, Int.reduceAdd]; omega)) rfl ?_
    refine v_iconst (n := 7) xB_165 dX11_putsOut_6 ⟨by decide, by decide⟩ rfl ?_
    refine v_ic_eq_n (n := 10) xB_165 dX11_putsOut_7 (by decide) rfl (by first | omega | (simp only [sA_same, sA_s, ud_s, Int.reduceEq, if_true, if_false, ite_true, ite_false, ↓reduceIte, and_true, true_and, eq_self, Int.add_zero, Int.reduceAdd]; omega)) ?_
    refine v_aload_n (n := 11) xB_165 dX11_putsOut_10 rfl rfl ?_
    refine v_gf_s (n := 14) (kz := 1) xB_165 dX11_putsOut_11 xO_165 fl_11_13 fg_11_1 (sh_81 _ _ _) rfl st_81_1 rfl ?_
    refine v_iload_n (n := 15) xB_165 dX11_putsOut_14 rfl rfl ?_
    refine v_iaload (n := 16) (lz := 5) xB_165 dX11_putsOut_15 (sh_82 _ _ _) rfl (by first | omega | (simp only [sA_same, sA_s, ud_s, Int.reduceEq, if_true, if_false, ite_true, ite_false, ↓reduceIte, and_true, true_and, eq_self, Int.add_zero, Int.reduceAdd]; omega)) rfl ?_
    refine v_iconst (n := 17) xB_165 dX11_putsOut_16 ⟨by decide, by decide⟩ rfl ?_
    refine v_ic_eq_y (t := 40) xB_165 dX11_putsOut_17 (by decide) rfl (by first | omega | (simp only [sA_same, sA_s, ud_s, Int.reduceEq, if_true, if_false, ite_true, ite_false, ↓reduceIte, and_true, true_and, eq_self, Int.add_zero, Int.reduceAdd]; omega)) ?_
    refine v_aload_n (n := 41) xB_165 dX11_putsOut_40 rfl rfl ?_
    refine v_iload_n (n := 42) xB_165 dX11_putsOut_41 rfl rfl ?_
    refine v_call_v (n := 45) xB_165 dX11_putsOut_42 xO_165 iv_11_303 rfl (sh_81 _ _ _) rfl rfl rfl ?_
    refine c_over (by omega) (by first | omega | (simp only [sA_same, sA_s, ud_s, Int.reduceEq, if_true, if_false, ite_true, ite_false, ↓reduceIte, and_true, true_and, eq_self, Int.add_zero, Int.reduceAdd]; omega)) (by first | assumption | (simp only [sA_same, sA_s, ud_s, Int.reduceEq, if_true, if_false, ite_true, ite_false, ↓reduceIte, and_true, true_and, eq_self, Int.add_zero, Int.reduceAdd]; assumption)) ?_
    (try simp (disch := omega) only [sA_same, sA_ne, sA_sA, sA_sr, sB_s, ud_eq, ud_ne, ud_ud, ud_sr, uB_s, Int.add_zero, Int.reduceAdd])
    refine v_aload_n (n := 46) xB_165 dX11_putsOut_45 rfl rfl ?_
    refine v_gf_s (n := 49) (kz := 1) xB_165 dX11_putsOut_46 xO_165 fl_11_13 fg_11_1 (sh_81 _ _ _) rfl st_81_1 rfl ?_
    refine v_iload_n (n := 50) xB_165 dX11_putsOut_49 rfl rfl ?_
    refine v_iaload (n := 51) (lz := 5) xB_165 dX11_putsOut_50 (sh_82 _ _ _) rfl (by first | omega | (simp only [sA_same, sA_s, ud_s, Int.reduceEq, if_true, if_false, ite_true, ite_false, ↓reduceIte, and_true, true_and, eq_self, Int.add_zero, Int.reduceAdd]; omega)) rfl ?_
    refine v_iconst (n := 52) xB_165 dX11_putsOut_51 ⟨by decide, by decide⟩ rfl ?_
    refine v_ic_eq_n (n := 55) xB_165 dX11_putsOut_52 (by decide) rfl (by first | omega | (simp only [sA_same, sA_s, ud_s, Int.reduceEq, if_true, if_false, ite_true, ite_false, ↓reduceIte, and_true, true_and, eq_self, Int.add_zero, Int.reduceAdd]; omega)) ?_
    refine v_aload_n (n := 56) xB_165 dX11_putsOut_55 rfl rfl ?_
    refine v_gf_s (n := 59) (kz := 1) xB_165 dX11_putsOut_56 xO_165 fl_11_13 fg_11_1 (sh_81 _ _ _) rfl st_81_1 rfl ?_
    refine v_iload_n (n := 60) xB_165 dX11_putsOut_59 rfl rfl ?_
    refine v_iaload (n := 61) (lz := 5) xB_165 dX11_putsOut_60 (sh_82 _ _ _) rfl (by first | omega | (simp only [sA_same, sA_s, ud_s, Int.reduceEq, if_true, if_false, ite_true, ite_false, ↓reduceIte, and_true, true_and, eq_self, Int.add_zero, Int.reduceAdd]; omega)) rfl ?_
    refine v_iconst (n := 62) xB_165 dX11_putsOut_61 ⟨by decide, by decide⟩ rfl ?_
    refine v_ic_ne_y (t := 70) xB_165 dX11_putsOut_62 (by decide) rfl (by first | omega | (simp only [sA_same, sA_s, ud_s, Int.reduceEq, if_true, if_false, ite_true, ite_false, ↓reduceIte, and_true, true_and, eq_self, Int.add_zero, Int.reduceAdd]; omega)) ?_
    refine v_iconst (n := 71) xB_165 dX11_putsOut_70 ⟨by decide, by decide⟩ rfl ?_
    refine v_istore_n3 (n := 72) xB_165 dX11_putsOut_71 rfl rfl ?_
    refine v_iload_n (n := 73) xB_165 dX11_putsOut_72 rfl rfl ?_
    refine v_iconst (n := 74) xB_165 dX11_putsOut_73 ⟨by decide, by decide⟩ rfl ?_
    refine v_ic_ge_n (n := 77) xB_165 dX11_putsOut_74 (by decide) rfl (by decide) ?_
    refine v_aload_n (n := 78) xB_165 dX11_putsOut_77 rfl rfl ?_
    refine v_gf_s (n := 81) (kz := 24) xB_165 dX11_putsOut_78 xO_165 fl_11_84 fg_11_24 (sh_81 _ _ _) rfl st_81_24 rfl ?_
    refine v_iconst (n := 82) xB_165 dX11_putsOut_81 ⟨by decide, by decide⟩ rfl ?_
    refine v_aload_n (n := 83) xB_165 dX11_putsOut_82 rfl rfl ?_
    refine v_gf_i (n := 86) (kz := 29) xB_165 dX11_putsOut_83 xO_165 fl_11_99 fg_11_29 rfl (sh_81 _ _ _) rfl rfl ?_
    refine v_imul (n := 87) xB_165 dX11_putsOut_86 (by first | omega | (simp only [sA_same, sA_s, ud_s, Int.reduceEq, if_true, if_false, ite_true, ite_false, ↓reduceIte, and_true, true_and, eq_self, Int.add_zero, Int.reduceAdd]; omega)) rfl ?_
    refine v_iload_n (n := 88) xB_165 dX11_putsOut_87 rfl rfl ?_
    refine v_iadd (n := 89) xB_165 dX11_putsOut_88 (by first | omega | (simp only [sA_same, sA_s, ud_s, Int.reduceEq, if_true, if_false, ite_true, ite_false, ↓reduceIte, and_true, true_and, eq_self, Int.add_zero, Int.reduceAdd]; omega)) rfl ?_
    refine v_aload_n (n := 90) xB_165 dX11_putsOut_89 rfl rfl ?_
    refine v_gf_s (n := 93) (kz := 23) xB_165 dX11_putsOut_90 xO_165 fl_11_81 fg_11_23 (sh_81 _ _ _) rfl st_81_23 rfl ?_
    refine v_iconst (n := 94) xB_165 dX11_putsOut_93 ⟨by decide, by decide⟩ rfl ?_
    refine v_iload_n (n := 95) xB_165 dX11_putsOut_94 rfl rfl ?_
    refine v_imul (n := 96) xB_165 dX11_putsOut_95 (by first | omega | (simp only [sA_same, sA_s, ud_s, Int.reduceEq, if_true, if_false, ite_true, ite_false, ↓reduceIte, and_true, true_and, eq_self, Int.add_zero, Int.reduceAdd]; omega)) rfl ?_
    refine v_iload_n (n := 97) xB_165 dX11_putsOut_96 rfl rfl ?_
    refine v_iadd (n := 98) xB_165 dX11_putsOut_97 (by first | omega | (simp only [sA_same, sA_s, ud_s, Int.reduceEq, if_true, if_false, ite_true, ite_false, ↓reduceIte, and_true, true_and, eq_self, Int.add_zero, Int.reduceAdd]; omega)) rfl ?_
    refine v_iaload (n := 99) (lz := 24) xB_165 dX11_putsOut_98 (sh_96 _ _ _) rfl (by first | omega | (simp only [sA_same, sA_s, ud_s, Int.reduceEq, if_true, if_false, ite_true, ite_false, ↓reduceIte, and_true, true_and, eq_self, Int.add_zero, Int.reduceAdd]; omega)) rfl ?_
    refine v_iastore (n := 100) (lz := 24) xB_165 dX11_putsOut_99 (sh_97 _ _ _) (by decide) rfl (by first | omega | (simp only [sA_same, sA_s, ud_s, Int.reduceEq, if_true, if_false, ite_true, ite_false, ↓reduceIte, and_true, true_and, eq_self, Int.add_zero, Int.reduceAdd]; omega)) rfl ?_
    (try simp (disch := omega) only [sA_same, sA_ne, sA_sA, sA_sr, sB_s, ud_eq, ud_ne, ud_ud, ud_sr, uB_s, Int.add_zero, Int.reduceAdd])
    refine v_aload_n (n := 101) xB_165 dX11_putsOut_100 rfl rfl ?_
    refine v_gf_s (n := 104) (kz := 27) xB_165 dX11_putsOut_101 xO_165 fl_11_93 fg_11_27 (sh_81 _ _ _) rfl st_81_27 rfl ?_
    refine v_iconst (n := 105) xB_165 dX11_putsOut_104 ⟨by decide, by decide⟩ rfl ?_
    refine v_aload_n (n := 106) xB_165 dX11_putsOut_105 rfl rfl ?_
    refine v_gf_i (n := 109) (kz := 29) xB_165 dX11_putsOut_106 xO_165 fl_11_99 fg_11_29 rfl (sh_81 _ _ _) rfl rfl ?_
    refine v_imul (n := 110) xB_165 dX11_putsOut_109 (by first | omega | (simp only [sA_same, sA_s, ud_s, Int.reduceEq, if_true, if_false, ite_true, ite_false, ↓reduceIte, and_true, true_and, eq_self, Int.add_zero, Int.reduceAdd]; omega)) rfl ?_
    refine v_iload_n (n := 111) xB_165 dX11_putsOut_110 rfl rfl ?_
    refine v_iadd (n := 112) xB_165 dX11_putsOut_111 (by first | omega | (simp only [sA_same, sA_s, ud_s, Int.reduceEq, if_true, if_false, ite_true, ite_false, ↓reduceIte, and_true, true_and, eq_self, Int.add_zero, Int.reduceAdd]; omega)) rfl ?_
    refine v_aload_n (n := 113) xB_165 dX11_putsOut_112 rfl rfl ?_
    refine v_gf_s (n := 116) (kz := 26) xB_165 dX11_putsOut_113 xO_165 fl_11_90 fg_11_26 (sh_81 _ _ _) rfl st_81_26 rfl ?_
    refine v_iconst (n := 117) xB_165 dX11_putsOut_116 ⟨by decide, by decide⟩ rfl ?_
    refine v_iload_n (n := 118) xB_165 dX11_putsOut_117 rfl rfl ?_
    refine v_imul (n := 119) xB_165 dX11_putsOut_118 (by first | omega | (simp only [sA_same, sA_s, ud_s, Int.reduceEq, if_true, if_false, ite_true, ite_false, ↓reduceIte, and_true, true_and, eq_self, Int.add_zero, Int.reduceAdd]; omega)) rfl ?_
    refine v_iload_n (n := 120) xB_165 dX11_putsOut_119 rfl rfl ?_
    refine v_iadd (n := 121) xB_165 dX11_putsOut_120 (by first | omega | (simp only [sA_same, sA_s, ud_s, Int.reduceEq, if_true, if_false, ite_true, ite_false, ↓reduceIte, and_true, true_and, eq_self, Int.add_zero, Int.reduceAdd]; omega)) rfl ?_
    refine v_baload (n := 122) (lz := 24) xB_165 dX11_putsOut_121 (sh_99 _ _ _) rfl (by first | omega | (simp only [sA_same, sA_s, ud_s, Int.reduceEq, if_true, if_false, ite_true, ite_false, ↓reduceIte, and_true, true_and, eq_self, Int.add_zero, Int.reduceAdd]; omega)) rfl ?_
    refine v_bastore01 (n := 123) (lz := 24) xB_165 dX11_putsOut_122 (sh_100 _ _ _) (by decide) rfl (by first | omega | (simp only [sA_same, sA_s, ud_s, Int.reduceEq, if_true, if_false, ite_true, ite_false, ↓reduceIte, and_true, true_and, eq_self, Int.add_zero, Int.reduceAdd]; omega)) (by first | omega | (simp only [sA_same, sA_s, ud_s, Int.reduceEq, if_true, if_false, ite_true, ite_false, ↓reduceIte, and_true, true_and, eq_self, Int.add_zero, Int.reduceAdd]; omega)) rfl ?_
    (try simp (disch := omega) only [sA_same, sA_ne, sA_sA, sA_sr, sB_s, ud_eq, ud_ne, ud_ud, ud_sr, uB_s, Int.add_zero, Int.reduceAdd])
    refine v_iinc3 (n := 126) xB_165 dX11_putsOut_123 rfl (by first | omega | (simp only [sA_same, sA_s, ud_s, Int.reduceEq, if_true, if_false, ite_true, ite_false, ↓reduceIte, and_true, true_and, eq_self, Int.add_zero, Int.reduceAdd]; omega)) rfl ?_
    refine v_goto (t := 72) xB_165 dX11_putsOut_126 (by decide) rfl ?_
    refine v_iload_n (n := 73) xB_165 dX11_putsOut_72 rfl rfl ?_
    refine v_iconst (n := 74) xB_165 dX11_putsOut_73 ⟨by decide, by decide⟩ rfl ?_
    refine v_ic_ge_n (n := 77) xB_165 dX11_putsOut_74 (by decide) rfl (by decide) ?_
    refine v_aload_n (n := 78) xB_165 dX11_putsOut_77 rfl rfl ?_
    refine v_gf_s (n := 81) (kz := 24) xB_165 dX11_putsOut_78 xO_165 fl_11_84 fg_11_24 (sh_81 _ _ _) rfl st_81_24 rfl ?_
    refine v_iconst (n := 82) xB_165 dX11_putsOut_81 ⟨by decide, by decide⟩ rfl ?_
    refine v_aload_n (n := 83) xB_165 dX11_putsOut_82 rfl rfl ?_
    refine v_gf_i (n := 86) (kz := 29) xB_165 dX11_putsOut_83 xO_165 fl_11_99 fg_11_29 rfl (sh_81 _ _ _) rfl rfl ?_
    refine v_imul (n := 87) xB_165 dX11_putsOut_86 (by first | omega | (simp only [sA_same, sA_s, ud_s, Int.reduceEq, if_true, if_false, ite_true, ite_false, ↓reduceIte, and_true, true_and, eq_self, Int.add_zero, Int.reduceAdd]; omega)) rfl ?_
    refine v_iload_n (n := 88) xB_165 dX11_putsOut_87 rfl rfl ?_
    refine v_iadd (n := 89) xB_165 dX11_putsOut_88 (by first | omega | (simp only [sA_same, sA_s, ud_s, Int.reduceEq, if_true, if_false, ite_true, ite_false, ↓reduceIte, and_true, true_and, eq_self, Int.add_zero, Int.reduceAdd]; omega)) rfl ?_
    refine v_aload_n (n := 90) xB_165 dX11_putsOut_89 rfl rfl ?_
    refine v_gf_s (n := 93) (kz := 23) xB_165 dX11_putsOut_90 xO_165 fl_11_81 fg_11_23 (sh_81 _ _ _) rfl st_81_23 rfl ?_
    refine v_iconst (n := 94) xB_165 dX11_putsOut_93 ⟨by decide, by decide⟩ rfl ?_
    refine v_iload_n (n := 95) xB_165 dX11_putsOut_94 rfl rfl ?_
    refine v_imul (n := 96) xB_165 dX11_putsOut_95 (by first | omega | (simp only [sA_same, sA_s, ud_s, Int.reduceEq, if_true, if_false, ite_true, ite_false, ↓reduceIte, and_true, true_and, eq_self, Int.add_zero, Int.reduceAdd]; omega)) rfl ?_
    refine v_iload_n (n := 97) xB_165 dX11_putsOut_96 rfl rfl ?_
    refine v_iadd (n := 98) xB_165 dX11_putsOut_97 (by first | omega | (simp only [sA_same, sA_s, ud_s, Int.reduceEq, if_true, if_false, ite_true, ite_false, ↓reduceIte, and_true, true_and, eq_self, Int.add_zero, Int.reduceAdd]; omega)) rfl ?_
    refine v_iaload (n := 99) (lz := 24) xB_165 dX11_putsOut_98 (sh_96 _ _ _) rfl (by first | omega | (simp only [sA_same, sA_s, ud_s, Int.reduceEq, if_true, if_false, ite_true, ite_false, ↓reduceIte, and_true, true_and, eq_self, Int.add_zero, Int.reduceAdd]; omega)) rfl ?_
    refine v_iastore (n := 100) (lz := 24) xB_165 dX11_putsOut_99 (sh_97 _ _ _) (by decide) rfl (by first | omega | (simp only [sA_same, sA_s, ud_s, Int.reduceEq, if_true, if_false, ite_true, ite_false, ↓reduceIte, and_true, true_and, eq_self, Int.add_zero, Int.reduceAdd]; omega)) rfl ?_
    (try simp (disch := omega) only [sA_same, sA_ne, sA_sA, sA_sr, sB_s, ud_eq, ud_ne, ud_ud, ud_sr, uB_s, Int.add_zero, Int.reduceAdd])
    refine v_aload_n (n := 101) xB_165 dX11_putsOut_100 rfl rfl ?_
    refine v_gf_s (n := 104) (kz := 27) xB_165 dX11_putsOut_101 xO_165 fl_11_93 fg_11_27 (sh_81 _ _ _) rfl st_81_27 rfl ?_
    refine v_iconst (n := 105) xB_165 dX11_putsOut_104 ⟨by decide, by decide⟩ rfl ?_
    refine v_aload_n (n := 106) xB_165 dX11_putsOut_105 rfl rfl ?_
    refine v_gf_i (n := 109) (kz := 29) xB_165 dX11_putsOut_106 xO_165 fl_11_99 fg_11_29 rfl (sh_81 _ _ _) rfl rfl ?_
    refine v_imul (n := 110) xB_165 dX11_putsOut_109 (by first | omega | (simp only [sA_same, sA_s, ud_s, Int.reduceEq, if_true, if_false, ite_true, ite_false, ↓reduceIte, and_true, true_and, eq_self, Int.add_zero, Int.reduceAdd]; omega)) rfl ?_
    refine v_iload_n (n := 111) xB_165 dX11_putsOut_110 rfl rfl ?_
    refine v_iadd (n := 112) xB_165 dX11_putsOut_111 (by first | omega | (simp only [sA_same, sA_s, ud_s, Int.reduceEq, if_true, if_false, ite_true, ite_false, ↓reduceIte, and_true, true_and, eq_self, Int.add_zero, Int.reduceAdd]; omega)) rfl ?_
    refine v_aload_n (n := 113) xB_165 dX11_putsOut_112 rfl rfl ?_
    refine v_gf_s (n := 116) (kz := 26) xB_165 dX11_putsOut_113 xO_165 fl_11_90 fg_11_26 (sh_81 _ _ _) rfl st_81_26 rfl ?_
    refine v_iconst (n := 117) xB_165 dX11_putsOut_116 ⟨by decide, by decide⟩ rfl ?_
    refine v_iload_n (n := 118) xB_165 dX11_putsOut_117 rfl rfl ?_
    refine v_imul (n := 119) xB_165 dX11_putsOut_118 (by first | omega | (simp only [sA_same, sA_s, ud_s, Int.reduceEq, if_true, if_false, ite_true, ite_false, ↓reduceIte, and_true, true_and, eq_self, Int.add_zero, Int.reduceAdd]; omega)) rfl ?_
    refine v_iload_n (n := 120) xB_165 dX11_putsOut_119 rfl rfl ?_
    refine v_iadd (n := 121) xB_165 dX11_putsOut_120 (by first | omega | (simp only [sA_same, sA_s, ud_s, Int.reduceEq, if_true, if_false, ite_true, ite_false, ↓reduceIte, and_true, true_and, eq_self, Int.add_zero, Int.reduceAdd]; omega)) rfl ?_
    refine v_baload (n := 122) (lz := 24) xB_165 dX11_putsOut_121 (sh_99 _ _ _) rfl (by first | omega | (simp only [sA_same, sA_s, ud_s, Int.reduceEq, if_true, if_false, ite_true, ite_false, ↓reduceIte, and_true, true_and, eq_self, Int.add_zero, Int.reduceAdd]; omega)) rfl ?_
    refine v_bastore01 (n := 123) (lz := 24) xB_165 dX11_putsOut_122 (sh_100 _ _ _) (by decide) rfl (by first | omega | (simp only [sA_same, sA_s, ud_s, Int.reduceEq, if_true, if_false, ite_true, ite_false, ↓reduceIte, and_true, true_and, eq_self, Int.add_zero, Int.reduceAdd]; omega)) (by first | omega | (simp only [sA_same, sA_s, ud_s, Int.reduceEq, if_true, if_false, ite_true, ite_false, ↓reduceIte, and_true, true_and, eq_self, Int.add_zero, Int.reduceAdd]; omega)) rfl ?_
    (try simp (disch := omega) only [sA_same, sA_ne, sA_sA, sA_sr, sB_s, ud_eq, ud_ne, ud_ud, ud_sr, uB_s, Int.add_zero, Int.reduceAdd])
    refine v_iinc3 (n := 126) xB_165 dX11_putsOut_123 rfl (by first | omega | (simp only [sA_same, sA_s, ud_s, Int.reduceEq, if_true, if_false, ite_true, ite_false, ↓reduceIte, and_true, true_and, eq_self, Int.add_zero, Int.reduceAdd]; omega)) rfl ?_
    refine v_goto (t := 72) xB_165 dX11_putsOut_126 (by decide) rfl ?_
    refine v_iload_n (n := 73) xB_165 dX11_putsOut_72 rfl rfl ?_
    refine v_iconst (n := 74) xB_165 dX11_putsOut_73 ⟨by decide, by decide⟩ rfl ?_
    refine v_ic_ge_y (t := 129) xB_165 dX11_putsOut_74 (by decide) rfl (by decide) ?_
    refine v_aload_n (n := 130) xB_165 dX11_putsOut_129 rfl rfl ?_
    refine v_dup (n := 131) xB_165 dX11_putsOut_130 rfl rfl ?_
    refine v_gf_i (n := 134) (kz := 29) xB_165 dX11_putsOut_131 xO_165 fl_11_99 fg_11_29 rfl (sh_81 _ _ _) rfl rfl ?_
    refine v_iconst (n := 135) xB_165 dX11_putsOut_134 ⟨by decide, by decide⟩ rfl ?_
    refine v_iadd (n := 136) xB_165 dX11_putsOut_135 (by first | omega | (simp only [sA_same, sA_s, ud_s, Int.reduceEq, if_true, if_false, ite_true, ite_false, ↓reduceIte, and_true, true_and, eq_self, Int.add_zero, Int.reduceAdd]; omega)) rfl ?_
    refine v_pf_i (n := 139) (kz := 29) xB_165 dX11_putsOut_136 xO_165 fl_11_99 fg_11_29 (Or.inl fn_11_29) (sh_81 _ _ _) (by decide) rfl rfl ?_
    (try simp (disch := omega) only [sA_same, sA_ne, sA_sA, sA_sr, sB_s, ud_eq, ud_ne, ud_ud, ud_sr, uB_s, Int.add_zero, Int.reduceAdd])
    refine v_return xB_165 dX11_putsOut_139 xK_165 ?_
    (try simp (disch := omega) only [sA_same, sA_ne, sA_sA, sA_sr, sB_s, ud_eq, ud_ne, ud_ud, ud_sr, uB_s, Int.add_zero, Int.reduceAdd])
    (try rw [put_ins])
    refine o1 _ _ _ _ (by (repeat' first | assumption | refine bl_ud ?_ ?_ _) <;> omega) (by (repeat' first | assumption | refine pgs_ud ?_ ?_ _) <;> first | assumption | omega) (by (repeat' first | assumption | refine bl_ud ?_ ?_ _) <;> omega) (by (repeat' first | assumption | refine pgs_ud ?_ ?_ _) <;> first | assumption | omega) (fun x hx => ?_) (fun x => ?_)
    · first | rfl | (rw [pkA_s, pkA_s]; simp (disch := omega) only [ud_ne])
    · rw [pkA_s, pkA_s, pkA_s]
      by_cases hx : x = m 81 29
      · subst hx
        rw [if_pos rfl]
        simp (disch := omega) only [ud_eq, ud_ne]
        unfold lyF
        first | rw [if_pos (by omega), ov_pk (hp _) (hb _) (hp _) (hb _)] | rw [if_neg (by omega), if_pos (by omega), ov_pk (hp _) (hb _) (hp _) (hb _), abt_pk (hp _) (hb _) (hp _) (hb _)] | rw [if_neg (by omega), if_neg (by omega)]
      · rw [if_neg hx]
        simp (disch := omega) only [ud_ne]
  · skip
    refine v_aload_n (n := 1) xB_165 dX11_putsOut_0 rfl rfl ?_
    refine v_gf_s (n := 4) (kz := 1) xB_165 dX11_putsOut_1 xO_165 fl_11_13 fg_11_1 (sh_81 _ _ _) rfl st_81_1 rfl ?_
    refine v_iload_n (n := 5) xB_165 dX11_putsOut_4 rfl rfl ?_
    refine v_iaload (n := 6) (lz := 5) xB_165 dX11_putsOut_5 (sh_82 _ _ _) rfl (by first | omega | (simp only [sA_same, sA_s, ud_s, Int.reduceEq, if_true, if_false, ite_true, ite_false, ↓reduceIte, and_true, true_and, eq_self, Int.add_zero, Int.reduceAdd]; omega)) rfl ?_
    refine v_iconst (n := 7) xB_165 dX11_putsOut_6 ⟨by decide, by decide⟩ rfl ?_
    refine v_ic_eq_n (n := 10) xB_165 dX11_putsOut_7 (by decide) rfl (by first | omega | (simp only [sA_same, sA_s, ud_s, Int.reduceEq, if_true, if_false, ite_true, ite_false, ↓reduceIte, and_true, true_and, eq_self, Int.add_zero, Int.reduceAdd]; omega)) ?_
    refine v_aload_n (n := 11) xB_165 dX11_putsOut_10 rfl rfl ?_
    refine v_gf_s (n := 14) (kz := 1) xB_165 dX11_putsOut_11 xO_165 fl_11_13 fg_11_1 (sh_81 _ _ _) rfl st_81_1 rfl ?_
    refine v_iload_n (n := 15) xB_165 dX11_putsOut_14 rfl rfl ?_
    refine v_iaload (n := 16) (lz := 5) xB_165 dX11_putsOut_15 (sh_82 _ _ _) rfl (by first | omega | (simp only [sA_same, sA_s, ud_s, Int.reduceEq, if_true, if_false, ite_true, ite_false, ↓reduceIte, and_true, true_and, eq_self, Int.add_zero, Int.reduceAdd]; omega)) rfl ?_
    refine v_iconst (n := 17) xB_165 dX11_putsOut_16 ⟨by decide, by decide⟩ rfl ?_
    refine v_ic_eq_n (n := 20) xB_165 dX11_putsOut_17 (by decide) rfl (by first | omega | (simp only [sA_same, sA_s, ud_s, Int.reduceEq, if_true, if_false, ite_true, ite_false, ↓reduceIte, and_true, true_and, eq_self, Int.add_zero, Int.reduceAdd]; omega)) ?_
    refine v_aload_n (n := 21) xB_165 dX11_putsOut_20 rfl rfl ?_
    refine v_gf_s (n := 24) (kz := 1) xB_165 dX11_putsOut_21 xO_165 fl_11_13 fg_11_1 (sh_81 _ _ _) rfl st_81_1 rfl ?_
    refine v_iload_n (n := 25) xB_165 dX11_putsOut_24 rfl rfl ?_
    refine v_iaload (n := 26) (lz := 5) xB_165 dX11_putsOut_25 (sh_82 _ _ _) rfl (by first | omega | (simp only [sA_same, sA_s, ud_s, Int.reduceEq, if_true, if_false, ite_true, ite_false, ↓reduceIte, and_true, true_and, eq_self, Int.add_zero, Int.reduceAdd]; omega)) rfl ?_
    refine v_iconst (n := 27) xB_165 dX11_putsOut_26 ⟨by decide, by decide⟩ rfl ?_
    refine v_ic_eq_n (n := 30) xB_165 dX11_putsOut_27 (by decide) rfl (by first | omega | (simp only [sA_same, sA_s, ud_s, Int.reduceEq, if_true, if_false, ite_true, ite_false, ↓reduceIte, and_true, true_and, eq_self, Int.add_zero, Int.reduceAdd]; omega)) ?_
    refine v_aload_n (n := 31) xB_165 dX11_putsOut_30 rfl rfl ?_
    refine v_gf_s (n := 34) (kz := 1) xB_165 dX11_putsOut_31 xO_165 fl_11_13 fg_11_1 (sh_81 _ _ _) rfl st_81_1 rfl ?_
    refine v_iload_n (n := 35) xB_165 dX11_putsOut_34 rfl rfl ?_
    refine v_iaload (n := 36) (lz := 5) xB_165 dX11_putsOut_35 (sh_82 _ _ _) rfl (by first | omega | (simp only [sA_same, sA_s, ud_s, Int.reduceEq, if_true, if_false, ite_true, ite_false, ↓reduceIte, and_true, true_and, eq_self, Int.add_zero, Int.reduceAdd]; omega)) rfl ?_
    refine v_iconst (n := 37) xB_165 dX11_putsOut_36 ⟨by decide, by decide⟩ rfl ?_
    refine v_ic_ne_n (n := 40) xB_165 dX11_putsOut_37 (by decide) rfl (by first | omega | (simp only [sA_same, sA_s, ud_s, Int.reduceEq, if_true, if_false, ite_true, ite_false, ↓reduceIte, and_true, true_and, eq_self, Int.add_zero, Int.reduceAdd]; omega)) ?_
    refine v_aload_n (n := 41) xB_165 dX11_putsOut_40 rfl rfl ?_
    refine v_iload_n (n := 42) xB_165 dX11_putsOut_41 rfl rfl ?_
    refine v_call_v (n := 45) xB_165 dX11_putsOut_42 xO_165 iv_11_303 rfl (sh_81 _ _ _) rfl rfl rfl ?_
    refine c_over (by omega) (by first | omega | (simp only [sA_same, sA_s, ud_s, Int.reduceEq, if_true, if_false, ite_true, ite_false, ↓reduceIte, and_true, true_and, eq_self, Int.add_zero, Int.reduceAdd]; omega)) (by first | assumption | (simp only [sA_same, sA_s, ud_s, Int.reduceEq, if_true, if_false, ite_true, ite_false, ↓reduceIte, and_true, true_and, eq_self, Int.add_zero, Int.reduceAdd]; assumption)) ?_
    (try simp (disch := omega) only [sA_same, sA_ne, sA_sA, sA_sr, sB_s, ud_eq, ud_ne, ud_ud, ud_sr, uB_s, Int.add_zero, Int.reduceAdd])
    refine v_aload_n (n := 46) xB_165 dX11_putsOut_45 rfl rfl ?_
    refine v_gf_s (n := 49) (kz := 1) xB_165 dX11_putsOut_46 xO_165 fl_11_13 fg_11_1 (sh_81 _ _ _) rfl st_81_1 rfl ?_
    refine v_iload_n (n := 50) xB_165 dX11_putsOut_49 rfl rfl ?_
    refine v_iaload (n := 51) (lz := 5) xB_165 dX11_putsOut_50 (sh_82 _ _ _) rfl (by first | omega | (simp only [sA_same, sA_s, ud_s, Int.reduceEq, if_true, if_false, ite_true, ite_false, ↓reduceIte, and_true, true_and, eq_self, Int.add_zero, Int.reduceAdd]; omega)) rfl ?_
    refine v_iconst (n := 52) xB_165 dX11_putsOut_51 ⟨by decide, by decide⟩ rfl ?_
    refine v_ic_eq_n (n := 55) xB_165 dX11_putsOut_52 (by decide) rfl (by first | omega | (simp only [sA_same, sA_s, ud_s, Int.reduceEq, if_true, if_false, ite_true, ite_false, ↓reduceIte, and_true, true_and, eq_self, Int.add_zero, Int.reduceAdd]; omega)) ?_
    refine v_aload_n (n := 56) xB_165 dX11_putsOut_55 rfl rfl ?_
    refine v_gf_s (n := 59) (kz := 1) xB_165 dX11_putsOut_56 xO_165 fl_11_13 fg_11_1 (sh_81 _ _ _) rfl st_81_1 rfl ?_
    refine v_iload_n (n := 60) xB_165 dX11_putsOut_59 rfl rfl ?_
    refine v_iaload (n := 61) (lz := 5) xB_165 dX11_putsOut_60 (sh_82 _ _ _) rfl (by first | omega | (simp only [sA_same, sA_s, ud_s, Int.reduceEq, if_true, if_false, ite_true, ite_false, ↓reduceIte, and_true, true_and, eq_self, Int.add_zero, Int.reduceAdd]; omega)) rfl ?_
    refine v_iconst (n := 62) xB_165 dX11_putsOut_61 ⟨by decide, by decide⟩ rfl ?_
    refine v_ic_ne_n (n := 65) xB_165 dX11_putsOut_62 (by decide) rfl (by first | omega | (simp only [sA_same, sA_s, ud_s, Int.reduceEq, if_true, if_false, ite_true, ite_false, ↓reduceIte, and_true, true_and, eq_self, Int.add_zero, Int.reduceAdd]; omega)) ?_
    refine v_aload_n (n := 66) xB_165 dX11_putsOut_65 rfl rfl ?_
    refine v_iload_n (n := 67) xB_165 dX11_putsOut_66 rfl rfl ?_
    refine v_call_v (n := 70) xB_165 dX11_putsOut_67 xO_165 iv_11_309 rfl (sh_81 _ _ _) rfl rfl rfl ?_
    refine c_about (by omega) (by first | omega | (simp only [sA_same, sA_s, ud_s, Int.reduceEq, if_true, if_false, ite_true, ite_false, ↓reduceIte, and_true, true_and, eq_self, Int.add_zero, Int.reduceAdd]; omega)) (by simp (disch := omega) only [sA_same, sA_ne]; first | assumption | exact bl_ud (bl_ud hb (by omega) _) (by omega) _) ?_
    (try simp (disch := omega) only [sA_same, sA_ne, sA_sA, sA_sr, sB_s, ud_eq, ud_ne, ud_ud, ud_sr, uB_s, Int.add_zero, Int.reduceAdd])
    refine v_iconst (n := 71) xB_165 dX11_putsOut_70 ⟨by decide, by decide⟩ rfl ?_
    refine v_istore_n3 (n := 72) xB_165 dX11_putsOut_71 rfl rfl ?_
    refine v_iload_n (n := 73) xB_165 dX11_putsOut_72 rfl rfl ?_
    refine v_iconst (n := 74) xB_165 dX11_putsOut_73 ⟨by decide, by decide⟩ rfl ?_
    refine v_ic_ge_n (n := 77) xB_165 dX11_putsOut_74 (by decide) rfl (by decide) ?_
    refine v_aload_n (n := 78) xB_165 dX11_putsOut_77 rfl rfl ?_
    refine v_gf_s (n := 81) (kz := 24) xB_165 dX11_putsOut_78 xO_165 fl_11_84 fg_11_24 (sh_81 _ _ _) rfl st_81_24 rfl ?_
    refine v_iconst (n := 82) xB_165 dX11_putsOut_81 ⟨by decide, by decide⟩ rfl ?_
    refine v_aload_n (n := 83) xB_165 dX11_putsOut_82 rfl rfl ?_
    refine v_gf_i (n := 86) (kz := 29) xB_165 dX11_putsOut_83 xO_165 fl_11_99 fg_11_29 rfl (sh_81 _ _ _) rfl rfl ?_
    refine v_imul (n := 87) xB_165 dX11_putsOut_86 (by first | omega | (simp only [sA_same, sA_s, ud_s, Int.reduceEq, if_true, if_false, ite_true, ite_false, ↓reduceIte, and_true, true_and, eq_self, Int.add_zero, Int.reduceAdd]; omega)) rfl ?_
    refine v_iload_n (n := 88) xB_165 dX11_putsOut_87 rfl rfl ?_
    refine v_iadd (n := 89) xB_165 dX11_putsOut_88 (by first | omega | (simp only [sA_same, sA_s, ud_s, Int.reduceEq, if_true, if_false, ite_true, ite_false, ↓reduceIte, and_true, true_and, eq_self, Int.add_zero, Int.reduceAdd]; omega)) rfl ?_
    refine v_aload_n (n := 90) xB_165 dX11_putsOut_89 rfl rfl ?_
    refine v_gf_s (n := 93) (kz := 23) xB_165 dX11_putsOut_90 xO_165 fl_11_81 fg_11_23 (sh_81 _ _ _) rfl st_81_23 rfl ?_
    refine v_iconst (n := 94) xB_165 dX11_putsOut_93 ⟨by decide, by decide⟩ rfl ?_
    refine v_iload_n (n := 95) xB_165 dX11_putsOut_94 rfl rfl ?_
    refine v_imul (n := 96) xB_165 dX11_putsOut_95 (by first | omega | (simp only [sA_same, sA_s, ud_s, Int.reduceEq, if_true, if_false, ite_true, ite_false, ↓reduceIte, and_true, true_and, eq_self, Int.add_zero, Int.reduceAdd]; omega)) rfl ?_
    refine v_iload_n (n := 97) xB_165 dX11_putsOut_96 rfl rfl ?_
    refine v_iadd (n := 98) xB_165 dX11_putsOut_97 (by first | omega | (simp only [sA_same, sA_s, ud_s, Int.reduceEq, if_true, if_false, ite_true, ite_false, ↓reduceIte, and_true, true_and, eq_self, Int.add_zero, Int.reduceAdd]; omega)) rfl ?_
    refine v_iaload (n := 99) (lz := 24) xB_165 dX11_putsOut_98 (sh_96 _ _ _) rfl (by first | omega | (simp only [sA_same, sA_s, ud_s, Int.reduceEq, if_true, if_false, ite_true, ite_false, ↓reduceIte, and_true, true_and, eq_self, Int.add_zero, Int.reduceAdd]; omega)) rfl ?_
    refine v_iastore (n := 100) (lz := 24) xB_165 dX11_putsOut_99 (sh_97 _ _ _) (by decide) rfl (by first | omega | (simp only [sA_same, sA_s, ud_s, Int.reduceEq, if_true, if_false, ite_true, ite_false, ↓reduceIte, and_true, true_and, eq_self, Int.add_zero, Int.reduceAdd]; omega)) rfl ?_
    (try simp (disch := omega) only [sA_same, sA_ne, sA_sA, sA_sr, sB_s, ud_eq, ud_ne, ud_ud, ud_sr, uB_s, Int.add_zero, Int.reduceAdd])
    refine v_aload_n (n := 101) xB_165 dX11_putsOut_100 rfl rfl ?_
    refine v_gf_s (n := 104) (kz := 27) xB_165 dX11_putsOut_101 xO_165 fl_11_93 fg_11_27 (sh_81 _ _ _) rfl st_81_27 rfl ?_
    refine v_iconst (n := 105) xB_165 dX11_putsOut_104 ⟨by decide, by decide⟩ rfl ?_
    refine v_aload_n (n := 106) xB_165 dX11_putsOut_105 rfl rfl ?_
    refine v_gf_i (n := 109) (kz := 29) xB_165 dX11_putsOut_106 xO_165 fl_11_99 fg_11_29 rfl (sh_81 _ _ _) rfl rfl ?_
    refine v_imul (n := 110) xB_165 dX11_putsOut_109 (by first | omega | (simp only [sA_same, sA_s, ud_s, Int.reduceEq, if_true, if_false, ite_true, ite_false, ↓reduceIte, and_true, true_and, eq_self, Int.add_zero, Int.reduceAdd]; omega)) rfl ?_
    refine v_iload_n (n := 111) xB_165 dX11_putsOut_110 rfl rfl ?_
    refine v_iadd (n := 112) xB_165 dX11_putsOut_111 (by first | omega | (simp only [sA_same, sA_s, ud_s, Int.reduceEq, if_true, if_false, ite_true, ite_false, ↓reduceIte, and_true, true_and, eq_self, Int.add_zero, Int.reduceAdd]; omega)) rfl ?_
    refine v_aload_n (n := 113) xB_165 dX11_putsOut_112 rfl rfl ?_
    refine v_gf_s (n := 116) (kz := 26) xB_165 dX11_putsOut_113 xO_165 fl_11_90 fg_11_26 (sh_81 _ _ _) rfl st_81_26 rfl ?_
    refine v_iconst (n := 117) xB_165 dX11_putsOut_116 ⟨by decide, by decide⟩ rfl ?_
    refine v_iload_n (n := 118) xB_165 dX11_putsOut_117 rfl rfl ?_
    refine v_imul (n := 119) xB_165 dX11_putsOut_118 (by first | omega | (simp only [sA_same, sA_s, ud_s, Int.reduceEq, if_true, if_false, ite_true, ite_false, ↓reduceIte, and_true, true_and, eq_self, Int.add_zero, Int.reduceAdd]; omega)) rfl ?_
    refine v_iload_n (n := 120) xB_165 dX11_putsOut_119 rfl rfl ?_
    refine v_iadd (n := 121) xB_165 dX11_putsOut_120 (by first | omega | (simp only [sA_same, sA_s, ud_s, Int.reduceEq, if_true, if_false, ite_true, ite_false, ↓reduceIte, and_true, true_and, eq_self, Int.add_zero, Int.reduceAdd]; omega)) rfl ?_
    refine v_baload (n := 122) (lz := 24) xB_165 dX11_putsOut_121 (sh_99 _ _ _) rfl (by first | omega | (simp only [sA_same, sA_s, ud_s, Int.reduceEq, if_true, if_false, ite_true, ite_false, ↓reduceIte, and_true, true_and, eq_self, Int.add_zero, Int.reduceAdd]; omega)) rfl ?_
    refine v_bastore01 (n := 123) (lz := 24) xB_165 dX11_putsOut_122 (sh_100 _ _ _) (by decide) rfl (by first | omega | (simp only [sA_same, sA_s, ud_s, Int.reduceEq, if_true, if_false, ite_true, ite_false, ↓reduceIte, and_true, true_and, eq_self, Int.add_zero, Int.reduceAdd]; omega)) (by first | omega | (simp only [sA_same, sA_s, ud_s, Int.reduceEq, if_true, if_false, ite_true, ite_false, ↓reduceIte, and_true, true_and, eq_self, Int.add_zero, Int.reduceAdd]; omega)) rfl ?_
    (try simp (disch := omega) only [sA_same, sA_ne, sA_sA, sA_sr, sB_s, ud_eq, ud_ne, ud_ud, ud_sr, uB_s, Int.add_zero, Int.reduceAdd])
    refine v_iinc3 (n := 126) xB_165 dX11_putsOut_123 rfl (by first | omega | (simp only [sA_same, sA_s, ud_s, Int.reduceEq, if_true, if_false, ite_true, ite_false, ↓reduceIte, and_true, true_and, eq_self, Int.add_zero, Int.reduceAdd]; omega)) rfl ?_
    refine v_goto (t := 72) xB_165 dX11_putsOut_126 (by decide) rfl ?_
    refine v_iload_n (n := 73) xB_165 dX11_putsOut_72 rfl rfl ?_
    refine v_iconst (n := 74) xB_165 dX11_putsOut_73 ⟨by decide, by decide⟩ rfl ?_
    refine v_ic_ge_n (n := 77) xB_165 dX11_putsOut_74 (by decide) rfl (by decide) ?_
    refine v_aload_n (n := 78) xB_165 dX11_putsOut_77 rfl rfl ?_
    refine v_gf_s (n := 81) (kz := 24) xB_165 dX11_putsOut_78 xO_165 fl_11_84 fg_11_24 (sh_81 _ _ _) rfl st_81_24 rfl ?_
    refine v_iconst (n := 82) xB_165 dX11_putsOut_81 ⟨by decide, by decide⟩ rfl ?_
    refine v_aload_n (n := 83) xB_165 dX11_putsOut_82 rfl rfl ?_
    refine v_gf_i (n := 86) (kz := 29) xB_165 dX11_putsOut_83 xO_165 fl_11_99 fg_11_29 rfl (sh_81 _ _ _) rfl rfl ?_
    refine v_imul (n := 87) xB_165 dX11_putsOut_86 (by first | omega | (simp only [sA_same, sA_s, ud_s, Int.reduceEq, if_true, if_false, ite_true, ite_false, ↓reduceIte, and_true, true_and, eq_self, Int.add_zero, Int.reduceAdd]; omega)) rfl ?_
    refine v_iload_n (n := 88) xB_165 dX11_putsOut_87 rfl rfl ?_
    refine v_iadd (n := 89) xB_165 dX11_putsOut_88 (by first | omega | (simp only [sA_same, sA_s, ud_s, Int.reduceEq, if_true, if_false, ite_true, ite_false, ↓reduceIte, and_true, true_and, eq_self, Int.add_zero, Int.reduceAdd]; omega)) rfl ?_
    refine v_aload_n (n := 90) xB_165 dX11_putsOut_89 rfl rfl ?_
    refine v_gf_s (n := 93) (kz := 23) xB_165 dX11_putsOut_90 xO_165 fl_11_81 fg_11_23 (sh_81 _ _ _) rfl st_81_23 rfl ?_
    refine v_iconst (n := 94) xB_165 dX11_putsOut_93 ⟨by decide, by decide⟩ rfl ?_
    refine v_iload_n (n := 95) xB_165 dX11_putsOut_94 rfl rfl ?_
    refine v_imul (n := 96) xB_165 dX11_putsOut_95 (by first | omega | (simp only [sA_same, sA_s, ud_s, Int.reduceEq, if_true, if_false, ite_true, ite_false, ↓reduceIte, and_true, true_and, eq_self, Int.add_zero, Int.reduceAdd]; omega)) rfl ?_
    refine v_iload_n (n := 97) xB_165 dX11_putsOut_96 rfl rfl ?_
    refine v_iadd (n := 98) xB_165 dX11_putsOut_97 (by first | omega | (simp only [sA_same, sA_s, ud_s, Int.reduceEq, if_true, if_false, ite_true, ite_false, ↓reduceIte, and_true, true_and, eq_self, Int.add_zero, Int.reduceAdd]; omega)) rfl ?_
    refine v_iaload (n := 99) (lz := 24) xB_165 dX11_putsOut_98 (sh_96 _ _ _) rfl (by first | omega | (simp only [sA_same, sA_s, ud_s, Int.reduceEq, if_true, if_false, ite_true, ite_false, ↓reduceIte, and_true, true_and, eq_self, Int.add_zero, Int.reduceAdd]; omega)) rfl ?_
    refine v_iastore (n := 100) (lz := 24) xB_165 dX11_putsOut_99 (sh_97 _ _ _) (by decide) rfl (by first | omega | (simp only [sA_same, sA_s, ud_s, Int.reduceEq, if_true, if_false, ite_true, ite_false, ↓reduceIte, and_true, true_and, eq_self, Int.add_zero, Int.reduceAdd]; omega)) rfl ?_
    (try simp (disch := omega) only [sA_same, sA_ne, sA_sA, sA_sr, sB_s, ud_eq, ud_ne, ud_ud, ud_sr, uB_s, Int.add_zero, Int.reduceAdd])
    refine v_aload_n (n := 101) xB_165 dX11_putsOut_100 rfl rfl ?_
    refine v_gf_s (n := 104) (kz := 27) xB_165 dX11_putsOut_101 xO_165 fl_11_93 fg_11_27 (sh_81 _ _ _) rfl st_81_27 rfl ?_
    refine v_iconst (n := 105) xB_165 dX11_putsOut_104 ⟨by decide, by decide⟩ rfl ?_
    refine v_aload_n (n := 106) xB_165 dX11_putsOut_105 rfl rfl ?_
    refine v_gf_i (n := 109) (kz := 29) xB_165 dX11_putsOut_106 xO_165 fl_11_99 fg_11_29 rfl (sh_81 _ _ _) rfl rfl ?_
    refine v_imul (n := 110) xB_165 dX11_putsOut_109 (by first | omega | (simp only [sA_same, sA_s, ud_s, Int.reduceEq, if_true, if_false, ite_true, ite_false, ↓reduceIte, and_true, true_and, eq_self, Int.add_zero, Int.reduceAdd]; omega)) rfl ?_
    refine v_iload_n (n := 111) xB_165 dX11_putsOut_110 rfl rfl ?_
    refine v_iadd (n := 112) xB_165 dX11_putsOut_111 (by first | omega | (simp only [sA_same, sA_s, ud_s, Int.reduceEq, if_true, if_false, ite_true, ite_false, ↓reduceIte, and_true, true_and, eq_self, Int.add_zero, Int.reduceAdd]; omega)) rfl ?_
    refine v_aload_n (n := 113) xB_165 dX11_putsOut_112 rfl rfl ?_
    refine v_gf_s (n := 116) (kz := 26) xB_165 dX11_putsOut_113 xO_165 fl_11_90 fg_11_26 (sh_81 _ _ _) rfl st_81_26 rfl ?_
    refine v_iconst (n := 117) xB_165 dX11_putsOut_116 ⟨by decide, by decide⟩ rfl ?_
    refine v_iload_n (n := 118) xB_165 dX11_putsOut_117 rfl rfl ?_
    refine v_imul (n := 119) xB_165 dX11_putsOut_118 (by first | omega | (simp only [sA_same, sA_s, ud_s, Int.reduceEq, if_true, if_false, ite_true, ite_false, ↓reduceIte, and_true, true_and, eq_self, Int.add_zero, Int.reduceAdd]; omega)) rfl ?_
    refine v_iload_n (n := 120) xB_165 dX11_putsOut_119 rfl rfl ?_
    refine v_iadd (n := 121) xB_165 dX11_putsOut_120 (by first | omega | (simp only [sA_same, sA_s, ud_s, Int.reduceEq, if_true, if_false, ite_true, ite_false, ↓reduceIte, and_true, true_and, eq_self, Int.add_zero, Int.reduceAdd]; omega)) rfl ?_
    refine v_baload (n := 122) (lz := 24) xB_165 dX11_putsOut_121 (sh_99 _ _ _) rfl (by first | omega | (simp only [sA_same, sA_s, ud_s, Int.reduceEq, if_true, if_false, ite_true, ite_false, ↓reduceIte, and_true, true_and, eq_self, Int.add_zero, Int.reduceAdd]; omega)) rfl ?_
    refine v_bastore01 (n := 123) (lz := 24) xB_165 dX11_putsOut_122 (sh_100 _ _ _) (by decide) rfl (by first | omega | (simp only [sA_same, sA_s, ud_s, Int.reduceEq, if_true, if_false, ite_true, ite_false, ↓reduceIte, and_true, true_and, eq_self, Int.add_zero, Int.reduceAdd]; omega)) (by first | omega | (simp only [sA_same, sA_s, ud_s, Int.reduceEq, if_true, if_false, ite_true, ite_false, ↓reduceIte, and_true, true_and, eq_self, Int.add_zero, Int.reduceAdd]; omega)) rfl ?_
    (try simp (disch := omega) only [sA_same, sA_ne, sA_sA, sA_sr, sB_s, ud_eq, ud_ne, ud_ud, ud_sr, uB_s, Int.add_zero, Int.reduceAdd])
    refine v_iinc3 (n := 126) xB_165 dX11_putsOut_123 rfl (by first | omega | (simp only [sA_same, sA_s, ud_s, Int.reduceEq, if_true, if_false, ite_true, ite_false, ↓reduceIte, and_true, true_and, eq_self, Int.add_zero, Int.reduceAdd]; omega)) rfl ?_
    refine v_goto (t := 72) xB_165 dX11_putsOut_126 (by decide) rfl ?_
    refine v_iload_n (n := 73) xB_165 dX11_putsOut_72 rfl rfl ?_
    refine v_iconst (n := 74) xB_165 dX11_putsOut_73 ⟨by decide, by decide⟩ rfl ?_
    refine v_ic_ge_y (t := 129) xB_165 dX11_putsOut_74 (by decide) rfl (by decide) ?_
    refine v_aload_n (n := 130) xB_165 dX11_putsOut_129 rfl rfl ?_
    refine v_dup (n := 131) xB_165 dX11_putsOut_130 rfl rfl ?_
    refine v_gf_i (n := 134) (kz := 29) xB_165 dX11_putsOut_131 xO_165 fl_11_99 fg_11_29 rfl (sh_81 _ _ _) rfl rfl ?_
    refine v_iconst (n := 135) xB_165 dX11_putsOut_134 ⟨by decide, by decide⟩ rfl ?_
    refine v_iadd (n := 136) xB_165 dX11_putsOut_135 (by first | omega | (simp only [sA_same, sA_s, ud_s, Int.reduceEq, if_true, if_false, ite_true, ite_false, ↓reduceIte, and_true, true_and, eq_self, Int.add_zero, Int.reduceAdd]; omega)) rfl ?_
    refine v_pf_i (n := 139) (kz := 29) xB_165 dX11_putsOut_136 xO_165 fl_11_99 fg_11_29 (Or.inl fn_11_29) (sh_81 _ _ _) (by decide) rfl rfl ?_
    (try simp (disch := omega) only [sA_same, sA_ne, sA_sA, sA_sr, sB_s, ud_eq, ud_ne, ud_ud, ud_sr, uB_s, Int.add_zero, Int.reduceAdd])
    refine v_return xB_165 dX11_putsOut_139 xK_165 ?_
    (try simp (disch := omega) only [sA_same, sA_ne, sA_sA, sA_sr, sB_s, ud_eq, ud_ne, ud_ud, ud_sr, uB_s, Int.add_zero, Int.reduceAdd])
    (try rw [put_ins])
    refine o1 _ _ _ _ (by (repeat' first | assumption | refine bl_ud ?_ ?_ _) <;> omega) (by (repeat' first | assumption | refine pgs_ud ?_ ?_ _) <;> first | assumption | omega) (by (repeat' first | assumption | refine bl_ud ?_ ?_ _) <;> omega) (by (repeat' first | assumption | refine pgs_ud ?_ ?_ _) <;> first | assumption | omega) (fun x hx => ?_) (fun x => ?_)
    · first | rfl | (rw [pkA_s, pkA_s]; simp (disch := omega) only [ud_ne])
    · rw [pkA_s, pkA_s, pkA_s]
      by_cases hx : x = m 81 29
      · subst hx
        rw [if_pos rfl]
        simp (disch := omega) only [ud_eq, ud_ne]
        unfold lyF
        first | rw [if_pos (by omega), ov_pk (hp _) (hb _) (hp _) (hb _)] | rw [if_neg (by omega), if_pos (by omega), ov_pk (hp _) (hb _) (hp _) (hb _), abt_pk (hp _) (hb _) (hp _) (hb _)] | rw [if_neg (by omega), if_neg (by omega)]
      · rw [if_neg hx]
        simp (disch := omega) only [ud_ne]
  · skip
    refine v_aload_n (n := 1) xB_165 dX11_putsOut_0 rfl rfl ?_
    refine v_gf_s (n := 4) (kz := 1) xB_165 dX11_putsOut_1 xO_165 fl_11_13 fg_11_1 (sh_81 _ _ _) rfl st_81_1 rfl ?_
    refine v_iload_n (n := 5) xB_165 dX11_putsOut_4 rfl rfl ?_
    refine v_iaload (n := 6) (lz := 5) xB_165 dX11_putsOut_5 (sh_82 _ _ _) rfl (by first | omega | (simp only [sA_same, sA_s, ud_s, Int.reduceEq, if_true, if_false, ite_true, ite_false, ↓reduceIte, and_true, true_and, eq_self, Int.add_zero, Int.reduceAdd]; omega)) rfl ?_
    refine v_iconst (n := 7) xB_165 dX11_putsOut_6 ⟨by decide, by decide⟩ rfl ?_
    refine v_ic_eq_n (n := 10) xB_165 dX11_putsOut_7 (by decide) rfl (by first | omega | (simp only [sA_same, sA_s, ud_s, Int.reduceEq, if_true, if_false, ite_true, ite_false, ↓reduceIte, and_true, true_and, eq_self, Int.add_zero, Int.reduceAdd]; omega)) ?_
    refine v_aload_n (n := 11) xB_165 dX11_putsOut_10 rfl rfl ?_
    refine v_gf_s (n := 14) (kz := 1) xB_165 dX11_putsOut_11 xO_165 fl_11_13 fg_11_1 (sh_81 _ _ _) rfl st_81_1 rfl ?_
    refine v_iload_n (n := 15) xB_165 dX11_putsOut_14 rfl rfl ?_
    refine v_iaload (n := 16) (lz := 5) xB_165 dX11_putsOut_15 (sh_82 _ _ _) rfl (by first | omega | (simp only [sA_same, sA_s, ud_s, Int.reduceEq, if_true, if_false, ite_true, ite_false, ↓reduceIte, and_true, true_and, eq_self, Int.add_zero, Int.reduceAdd]; omega)) rfl ?_
    refine v_iconst (n := 17) xB_165 dX11_putsOut_16 ⟨by decide, by decide⟩ rfl ?_
    refine v_ic_eq_n (n := 20) xB_165 dX11_putsOut_17 (by decide) rfl (by first | omega | (simp only [sA_same, sA_s, ud_s, Int.reduceEq, if_true, if_false, ite_true, ite_false, ↓reduceIte, and_true, true_and, eq_self, Int.add_zero, Int.reduceAdd]; omega)) ?_
    refine v_aload_n (n := 21) xB_165 dX11_putsOut_20 rfl rfl ?_
    refine v_gf_s (n := 24) (kz := 1) xB_165 dX11_putsOut_21 xO_165 fl_11_13 fg_11_1 (sh_81 _ _ _) rfl st_81_1 rfl ?_
    refine v_iload_n (n := 25) xB_165 dX11_putsOut_24 rfl rfl ?_
    refine v_iaload (n := 26) (lz := 5) xB_165 dX11_putsOut_25 (sh_82 _ _ _) rfl (by first | omega | (simp only [sA_same, sA_s, ud_s, Int.reduceEq, if_true, if_false, ite_true, ite_false, ↓reduceIte, and_true, true_and, eq_self, Int.add_zero, Int.reduceAdd]; omega)) rfl ?_
    refine v_iconst (n := 27) xB_165 dX11_putsOut_26 ⟨by decide, by decide⟩ rfl ?_
    refine v_ic_eq_n (n := 30) xB_165 dX11_putsOut_27 (by decide) rfl (by first | omega | (simp only [sA_same, sA_s, ud_s, Int.reduceEq, if_true, if_false, ite_true, ite_false, ↓reduceIte, and_true, true_and, eq_self, Int.add_zero, Int.reduceAdd]; omega)) ?_
    refine v_aload_n (n := 31) xB_165 dX11_putsOut_30 rfl rfl ?_
    refine v_gf_s (n := 34) (kz := 1) xB_165 dX11_putsOut_31 xO_165 fl_11_13 fg_11_1 (sh_81 _ _ _) rfl st_81_1 rfl ?_
    refine v_iload_n (n := 35) xB_165 dX11_putsOut_34 rfl rfl ?_
    refine v_iaload (n := 36) (lz := 5) xB_165 dX11_putsOut_35 (sh_82 _ _ _) rfl (by first | omega | (simp only [sA_same, sA_s, ud_s, Int.reduceEq, if_true, if_false, ite_true, ite_false, ↓reduceIte, and_true, true_and, eq_self, Int.add_zero, Int.reduceAdd]; omega)) rfl ?_
    refine v_iconst (n := 37) xB_165 dX11_putsOut_36 ⟨by decide, by decide⟩ rfl ?_
    refine v_ic_ne_y (t := 45) xB_165 dX11_putsOut_37 (by decide) rfl (by first | omega | (simp only [sA_same, sA_s, ud_s, Int.reduceEq, if_true, if_false, ite_true, ite_false, ↓reduceIte, and_true, true_and, eq_self, Int.add_zero, Int.reduceAdd]; omega)) ?_
    refine v_aload_n (n := 46) xB_165 dX11_putsOut_45 rfl rfl ?_
    refine v_gf_s (n := 49) (kz := 1) xB_165 dX11_putsOut_46 xO_165 fl_11_13 fg_11_1 (sh_81 _ _ _) rfl st_81_1 rfl ?_
    refine v_iload_n (n := 50) xB_165 dX11_putsOut_49 rfl rfl ?_
    refine v_iaload (n := 51) (lz := 5) xB_165 dX11_putsOut_50 (sh_82 _ _ _) rfl (by first | omega | (simp only [sA_same, sA_s, ud_s, Int.reduceEq, if_true, if_false, ite_true, ite_false, ↓reduceIte, and_true, true_and, eq_self, Int.add_zero, Int.reduceAdd]; omega)) rfl ?_
    refine v_iconst (n := 52) xB_165 dX11_putsOut_51 ⟨by decide, by decide⟩ rfl ?_
    refine v_ic_eq_n (n := 55) xB_165 dX11_putsOut_52 (by decide) rfl (by first | omega | (simp only [sA_same, sA_s, ud_s, Int.reduceEq, if_true, if_false, ite_true, ite_false, ↓reduceIte, and_true, true_and, eq_self, Int.add_zero, Int.reduceAdd]; omega)) ?_
    refine v_aload_n (n := 56) xB_165 dX11_putsOut_55 rfl rfl ?_
    refine v_gf_s (n := 59) (kz := 1) xB_165 dX11_putsOut_56 xO_165 fl_11_13 fg_11_1 (sh_81 _ _ _) rfl st_81_1 rfl ?_
    refine v_iload_n (n := 60) xB_165 dX11_putsOut_59 rfl rfl ?_
    refine v_iaload (n := 61) (lz := 5) xB_165 dX11_putsOut_60 (sh_82 _ _ _) rfl (by first | omega | (simp only [sA_same, sA_s, ud_s, Int.reduceEq, if_true, if_false, ite_true, ite_false, ↓reduceIte, and_true, true_and, eq_self, Int.add_zero, Int.reduceAdd]; omega)) rfl ?_
    refine v_iconst (n := 62) xB_165 dX11_putsOut_61 ⟨by decide, by decide⟩ rfl ?_
    refine v_ic_ne_y (t := 70) xB_165 dX11_putsOut_62 (by decide) rfl (by first | omega | (simp only [sA_same, sA_s, ud_s, Int.reduceEq, if_true, if_false, ite_true, ite_false, ↓reduceIte, and_true, true_and, eq_self, Int.add_zero, Int.reduceAdd]; omega)) ?_
    refine v_iconst (n := 71) xB_165 dX11_putsOut_70 ⟨by decide, by decide⟩ rfl ?_
    refine v_istore_n3 (n := 72) xB_165 dX11_putsOut_71 rfl rfl ?_
    refine v_iload_n (n := 73) xB_165 dX11_putsOut_72 rfl rfl ?_
    refine v_iconst (n := 74) xB_165 dX11_putsOut_73 ⟨by decide, by decide⟩ rfl ?_
    refine v_ic_ge_n (n := 77) xB_165 dX11_putsOut_74 (by decide) rfl (by decide) ?_
    refine v_aload_n (n := 78) xB_165 dX11_putsOut_77 rfl rfl ?_
    refine v_gf_s (n := 81) (kz := 24) xB_165 dX11_putsOut_78 xO_165 fl_11_84 fg_11_24 (sh_81 _ _ _) rfl st_81_24 rfl ?_
    refine v_iconst (n := 82) xB_165 dX11_putsOut_81 ⟨by decide, by decide⟩ rfl ?_
    refine v_aload_n (n := 83) xB_165 dX11_putsOut_82 rfl rfl ?_
    refine v_gf_i (n := 86) (kz := 29) xB_165 dX11_putsOut_83 xO_165 fl_11_99 fg_11_29 rfl (sh_81 _ _ _) rfl rfl ?_
    refine v_imul (n := 87) xB_165 dX11_putsOut_86 (by first | omega | (simp only [sA_same, sA_s, ud_s, Int.reduceEq, if_true, if_false, ite_true, ite_false, ↓reduceIte, and_true, true_and, eq_self, Int.add_zero, Int.reduceAdd]; omega)) rfl ?_
    refine v_iload_n (n := 88) xB_165 dX11_putsOut_87 rfl rfl ?_
    refine v_iadd (n := 89) xB_165 dX11_putsOut_88 (by first | omega | (simp only [sA_same, sA_s, ud_s, Int.reduceEq, if_true, if_false, ite_true, ite_false, ↓reduceIte, and_true, true_and, eq_self, Int.add_zero, Int.reduceAdd]; omega)) rfl ?_
    refine v_aload_n (n := 90) xB_165 dX11_putsOut_89 rfl rfl ?_
    refine v_gf_s (n := 93) (kz := 23) xB_165 dX11_putsOut_90 xO_165 fl_11_81 fg_11_23 (sh_81 _ _ _) rfl st_81_23 rfl ?_
    refine v_iconst (n := 94) xB_165 dX11_putsOut_93 ⟨by decide, by decide⟩ rfl ?_
    refine v_iload_n (n := 95) xB_165 dX11_putsOut_94 rfl rfl ?_
    refine v_imul (n := 96) xB_165 dX11_putsOut_95 (by first | omega | (simp only [sA_same, sA_s, ud_s, Int.reduceEq, if_true, if_false, ite_true, ite_false, ↓reduceIte, and_true, true_and, eq_self, Int.add_zero, Int.reduceAdd]; omega)) rfl ?_
    refine v_iload_n (n := 97) xB_165 dX11_putsOut_96 rfl rfl ?_
    refine v_iadd (n := 98) xB_165 dX11_putsOut_97 (by first | omega | (simp only [sA_same, sA_s, ud_s, Int.reduceEq, if_true, if_false, ite_true, ite_false, ↓reduceIte, and_true, true_and, eq_self, Int.add_zero, Int.reduceAdd]; omega)) rfl ?_
    refine v_iaload (n := 99) (lz := 24) xB_165 dX11_putsOut_98 (sh_96 _ _ _) rfl (by first | omega | (simp only [sA_same, sA_s, ud_s, Int.reduceEq, if_true, if_false, ite_true, ite_false, ↓reduceIte, and_true, true_and, eq_self, Int.add_zero, Int.reduceAdd]; omega)) rfl ?_
    refine v_iastore (n := 100) (lz := 24) xB_165 dX11_putsOut_99 (sh_97 _ _ _) (by decide) rfl (by first | omega | (simp only [sA_same, sA_s, ud_s, Int.reduceEq, if_true, if_false, ite_true, ite_false, ↓reduceIte, and_true, true_and, eq_self, Int.add_zero, Int.reduceAdd]; omega)) rfl ?_
    (try simp (disch := omega) only [sA_same, sA_ne, sA_sA, sA_sr, sB_s, ud_eq, ud_ne, ud_ud, ud_sr, uB_s, Int.add_zero, Int.reduceAdd])
    refine v_aload_n (n := 101) xB_165 dX11_putsOut_100 rfl rfl ?_
    refine v_gf_s (n := 104) (kz := 27) xB_165 dX11_putsOut_101 xO_165 fl_11_93 fg_11_27 (sh_81 _ _ _) rfl st_81_27 rfl ?_
    refine v_iconst (n := 105) xB_165 dX11_putsOut_104 ⟨by decide, by decide⟩ rfl ?_
    refine v_aload_n (n := 106) xB_165 dX11_putsOut_105 rfl rfl ?_
    refine v_gf_i (n := 109) (kz := 29) xB_165 dX11_putsOut_106 xO_165 fl_11_99 fg_11_29 rfl (sh_81 _ _ _) rfl rfl ?_
    refine v_imul (n := 110) xB_165 dX11_putsOut_109 (by first | omega | (simp only [sA_same, sA_s, ud_s, Int.reduceEq, if_true, if_false, ite_true, ite_false, ↓reduceIte, and_true, true_and, eq_self, Int.add_zero, Int.reduceAdd]; omega)) rfl ?_
    refine v_iload_n (n := 111) xB_165 dX11_putsOut_110 rfl rfl ?_
    refine v_iadd (n := 112) xB_165 dX11_putsOut_111 (by first | omega | (simp only [sA_same, sA_s, ud_s, Int.reduceEq, if_true, if_false, ite_true, ite_false, ↓reduceIte, and_true, true_and, eq_self, Int.add_zero, Int.reduceAdd]; omega)) rfl ?_
    refine v_aload_n (n := 113) xB_165 dX11_putsOut_112 rfl rfl ?_
    refine v_gf_s (n := 116) (kz := 26) xB_165 dX11_putsOut_113 xO_165 fl_11_90 fg_11_26 (sh_81 _ _ _) rfl st_81_26 rfl ?_
    refine v_iconst (n := 117) xB_165 dX11_putsOut_116 ⟨by decide, by decide⟩ rfl ?_
    refine v_iload_n (n := 118) xB_165 dX11_putsOut_117 rfl rfl ?_
    refine v_imul (n := 119) xB_165 dX11_putsOut_118 (by first | omega | (simp only [sA_same, sA_s, ud_s, Int.reduceEq, if_true, if_false, ite_true, ite_false, ↓reduceIte, and_true, true_and, eq_self, Int.add_zero, Int.reduceAdd]; omega)) rfl ?_
    refine v_iload_n (n := 120) xB_165 dX11_putsOut_119 rfl rfl ?_
    refine v_iadd (n := 121) xB_165 dX11_putsOut_120 (by first | omega | (simp only [sA_same, sA_s, ud_s, Int.reduceEq, if_true, if_false, ite_true, ite_false, ↓reduceIte, and_true, true_and, eq_self, Int.add_zero, Int.reduceAdd]; omega)) rfl ?_
    refine v_baload (n := 122) (lz := 24) xB_165 dX11_putsOut_121 (sh_99 _ _ _) rfl (by first | omega | (simp only [sA_same, sA_s, ud_s, Int.reduceEq, if_true, if_false, ite_true, ite_false, ↓reduceIte, and_true, true_and, eq_self, Int.add_zero, Int.reduceAdd]; omega)) rfl ?_
    refine v_bastore01 (n := 123) (lz := 24) xB_165 dX11_putsOut_122 (sh_100 _ _ _) (by decide) rfl (by first | omega | (simp only [sA_same, sA_s, ud_s, Int.reduceEq, if_true, if_false, ite_true, ite_false, ↓reduceIte, and_true, true_and, eq_self, Int.add_zero, Int.reduceAdd]; omega)) (by first | omega | (simp only [sA_same, sA_s, ud_s, Int.reduceEq, if_true, if_false, ite_true, ite_false, ↓reduceIte, and_true, true_and, eq_self, Int.add_zero, Int.reduceAdd]; omega)) rfl ?_
    (try simp (disch := omega) only [sA_same, sA_ne, sA_sA, sA_sr, sB_s, ud_eq, ud_ne, ud_ud, ud_sr, uB_s, Int.add_zero, Int.reduceAdd])
    refine v_iinc3 (n := 126) xB_165 dX11_putsOut_123 rfl (by first | omega | (simp only [sA_same, sA_s, ud_s, Int.reduceEq, if_true, if_false, ite_true, ite_false, ↓reduceIte, and_true, true_and, eq_self, Int.add_zero, Int.reduceAdd]; omega)) rfl ?_
    refine v_goto (t := 72) xB_165 dX11_putsOut_126 (by decide) rfl ?_
    refine v_iload_n (n := 73) xB_165 dX11_putsOut_72 rfl rfl ?_
    refine v_iconst (n := 74) xB_165 dX11_putsOut_73 ⟨by decide, by decide⟩ rfl ?_
    refine v_ic_ge_n (n := 77) xB_165 dX11_putsOut_74 (by decide) rfl (by decide) ?_
    refine v_aload_n (n := 78) xB_165 dX11_putsOut_77 rfl rfl ?_
    refine v_gf_s (n := 81) (kz := 24) xB_165 dX11_putsOut_78 xO_165 fl_11_84 fg_11_24 (sh_81 _ _ _) rfl st_81_24 rfl ?_
    refine v_iconst (n := 82) xB_165 dX11_putsOut_81 ⟨by decide, by decide⟩ rfl ?_
    refine v_aload_n (n := 83) xB_165 dX11_putsOut_82 rfl rfl ?_
    refine v_gf_i (n := 86) (kz := 29) xB_165 dX11_putsOut_83 xO_165 fl_11_99 fg_11_29 rfl (sh_81 _ _ _) rfl rfl ?_
    refine v_imul (n := 87) xB_165 dX11_putsOut_86 (by first | omega | (simp only [sA_same, sA_s, ud_s, Int.reduceEq, if_true, if_false, ite_true, ite_false, ↓reduceIte, and_true, true_and, eq_self, Int.add_zero, Int.reduceAdd]; omega)) rfl ?_
    refine v_iload_n (n := 88) xB_165 dX11_putsOut_87 rfl rfl ?_
    refine v_iadd (n := 89) xB_165 dX11_putsOut_88 (by first | omega | (simp only [sA_same, sA_s, ud_s, Int.reduceEq, if_true, if_false, ite_true, ite_false, ↓reduceIte, and_true, true_and, eq_self, Int.add_zero, Int.reduceAdd]; omega)) rfl ?_
    refine v_aload_n (n := 90) xB_165 dX11_putsOut_89 rfl rfl ?_
    refine v_gf_s (n := 93) (kz := 23) xB_165 dX11_putsOut_90 xO_165 fl_11_81 fg_11_23 (sh_81 _ _ _) rfl st_81_23 rfl ?_
    refine v_iconst (n := 94) xB_165 dX11_putsOut_93 ⟨by decide, by decide⟩ rfl ?_
    refine v_iload_n (n := 95) xB_165 dX11_putsOut_94 rfl rfl ?_
    refine v_imul (n := 96) xB_165 dX11_putsOut_95 (by first | omega | (simp only [sA_same, sA_s, ud_s, Int.reduceEq, if_true, if_false, ite_true, ite_false, ↓reduceIte, and_true, true_and, eq_self, Int.add_zero, Int.reduceAdd]; omega)) rfl ?_
    refine v_iload_n (n := 97) xB_165 dX11_putsOut_96 rfl rfl ?_
    refine v_iadd (n := 98) xB_165 dX11_putsOut_97 (by first | omega | (simp only [sA_same, sA_s, ud_s, Int.reduceEq, if_true, if_false, ite_true, ite_false, ↓reduceIte, and_true, true_and, eq_self, Int.add_zero, Int.reduceAdd]; omega)) rfl ?_
    refine v_iaload (n := 99) (lz := 24) xB_165 dX11_putsOut_98 (sh_96 _ _ _) rfl (by first | omega | (simp only [sA_same, sA_s, ud_s, Int.reduceEq, if_true, if_false, ite_true, ite_false, ↓reduceIte, and_true, true_and, eq_self, Int.add_zero, Int.reduceAdd]; omega)) rfl ?_
    refine v_iastore (n := 100) (lz := 24) xB_165 dX11_putsOut_99 (sh_97 _ _ _) (by decide) rfl (by first | omega | (simp only [sA_same, sA_s, ud_s, Int.reduceEq, if_true, if_false, ite_true, ite_false, ↓reduceIte, and_true, true_and, eq_self, Int.add_zero, Int.reduceAdd]; omega)) rfl ?_
    (try simp (disch := omega) only [sA_same, sA_ne, sA_sA, sA_sr, sB_s, ud_eq, ud_ne, ud_ud, ud_sr, uB_s, Int.add_zero, Int.reduceAdd])
    refine v_aload_n (n := 101) xB_165 dX11_putsOut_100 rfl rfl ?_
    refine v_gf_s (n := 104) (kz := 27) xB_165 dX11_putsOut_101 xO_165 fl_11_93 fg_11_27 (sh_81 _ _ _) rfl st_81_27 rfl ?_
    refine v_iconst (n := 105) xB_165 dX11_putsOut_104 ⟨by decide, by decide⟩ rfl ?_
    refine v_aload_n (n := 106) xB_165 dX11_putsOut_105 rfl rfl ?_
    refine v_gf_i (n := 109) (kz := 29) xB_165 dX11_putsOut_106 xO_165 fl_11_99 fg_11_29 rfl (sh_81 _ _ _) rfl rfl ?_
    refine v_imul (n := 110) xB_165 dX11_putsOut_109 (by first | omega | (simp only [sA_same, sA_s, ud_s, Int.reduceEq, if_true, if_false, ite_true, ite_false, ↓reduceIte, and_true, true_and, eq_self, Int.add_zero, Int.reduceAdd]; omega)) rfl ?_
    refine v_iload_n (n := 111) xB_165 dX11_putsOut_110 rfl rfl ?_
    refine v_iadd (n := 112) xB_165 dX11_putsOut_111 (by first | omega | (simp only [sA_same, sA_s, ud_s, Int.reduceEq, if_true, if_false, ite_true, ite_false, ↓reduceIte, and_true, true_and, eq_self, Int.add_zero, Int.reduceAdd]; omega)) rfl ?_
    refine v_aload_n (n := 113) xB_165 dX11_putsOut_112 rfl rfl ?_
    refine v_gf_s (n := 116) (kz := 26) xB_165 dX11_putsOut_113 xO_165 fl_11_90 fg_11_26 (sh_81 _ _ _) rfl st_81_26 rfl ?_
    refine v_iconst (n := 117) xB_165 dX11_putsOut_116 ⟨by decide, by decide⟩ rfl ?_
    refine v_iload_n (n := 118) xB_165 dX11_putsOut_117 rfl rfl ?_
    refine v_imul (n := 119) xB_165 dX11_putsOut_118 (by first | omega | (simp only [sA_same, sA_s, ud_s, Int.reduceEq, if_true, if_false, ite_true, ite_false, ↓reduceIte, and_true, true_and, eq_self, Int.add_zero, Int.reduceAdd]; omega)) rfl ?_
    refine v_iload_n (n := 120) xB_165 dX11_putsOut_119 rfl rfl ?_
    refine v_iadd (n := 121) xB_165 dX11_putsOut_120 (by first | omega | (simp only [sA_same, sA_s, ud_s, Int.reduceEq, if_true, if_false, ite_true, ite_false, ↓reduceIte, and_true, true_and, eq_self, Int.add_zero, Int.reduceAdd]; omega)) rfl ?_
    refine v_baload (n := 122) (lz := 24) xB_165 dX11_putsOut_121 (sh_99 _ _ _) rfl (by first | omega | (simp only [sA_same, sA_s, ud_s, Int.reduceEq, if_true, if_false, ite_true, ite_false, ↓reduceIte, and_true, true_and, eq_self, Int.add_zero, Int.reduceAdd]; omega)) rfl ?_
    refine v_bastore01 (n := 123) (lz := 24) xB_165 dX11_putsOut_122 (sh_100 _ _ _) (by decide) rfl (by first | omega | (simp only [sA_same, sA_s, ud_s, Int.reduceEq, if_true, if_false, ite_true, ite_false, ↓reduceIte, and_true, true_and, eq_self, Int.add_zero, Int.reduceAdd]; omega)) (by first | omega | (simp only [sA_same, sA_s, ud_s, Int.reduceEq, if_true, if_false, ite_true, ite_false, ↓reduceIte, and_true, true_and, eq_self, Int.add_zero, Int.reduceAdd]; omega)) rfl ?_
    (try simp (disch := omega) only [sA_same, sA_ne, sA_sA, sA_sr, sB_s, ud_eq, ud_ne, ud_ud, ud_sr, uB_s, Int.add_zero, Int.reduceAdd])
    refine v_iinc3 (n := 126) xB_165 dX11_putsOut_123 rfl (by first | omega | (simp only [sA_same, sA_s, ud_s, Int.reduceEq, if_true, if_false, ite_true, ite_false, ↓reduceIte, and_true, true_and, eq_self, Int.add_zero, Int.reduceAdd]; omega)) rfl ?_
    refine v_goto (t := 72) xB_165 dX11_putsOut_126 (by decide) rfl ?_
    refine v_iload_n (n := 73) xB_165 dX11_putsOut_72 rfl rfl ?_
    refine v_iconst (n := 74) xB_165 dX11_putsOut_73 ⟨by decide, by decide⟩ rfl ?_
    refine v_ic_ge_y (t := 129) xB_165 dX11_putsOut_74 (by decide) rfl (by decide) ?_
    refine v_aload_n (n := 130) xB_165 dX11_putsOut_129 rfl rfl ?_
    refine v_dup (n := 131) xB_165 dX11_putsOut_130 rfl rfl ?_
    refine v_gf_i (n := 134) (kz := 29) xB_165 dX11_putsOut_131 xO_165 fl_11_99 fg_11_29 rfl (sh_81 _ _ _) rfl rfl ?_
    refine v_iconst (n := 135) xB_165 dX11_putsOut_134 ⟨by decide, by decide⟩ rfl ?_
    refine v_iadd (n := 136) xB_165 dX11_putsOut_135 (by first | omega | (simp only [sA_same, sA_s, ud_s, Int.reduceEq, if_true, if_false, ite_true, ite_false, ↓reduceIte, and_true, true_and, eq_self, Int.add_zero, Int.reduceAdd]; omega)) rfl ?_
    refine v_pf_i (n := 139) (kz := 29) xB_165 dX11_putsOut_136 xO_165 fl_11_99 fg_11_29 (Or.inl fn_11_29) (sh_81 _ _ _) (by decide) rfl rfl ?_
    (try simp (disch := omega) only [sA_same, sA_ne, sA_sA, sA_sr, sB_s, ud_eq, ud_ne, ud_ud, ud_sr, uB_s, Int.add_zero, Int.reduceAdd])
    refine v_return xB_165 dX11_putsOut_139 xK_165 ?_
    (try simp (disch := omega) only [sA_same, sA_ne, sA_sA, sA_sr, sB_s, ud_eq, ud_ne, ud_ud, ud_sr, uB_s, Int.add_zero, Int.reduceAdd])
    (try rw [put_ins])
    refine o1 _ _ _ _ (by (repeat' first | assumption | refine bl_ud ?_ ?_ _) <;> omega) (by (repeat' first | assumption | refine pgs_ud ?_ ?_ _) <;> first | assumption | omega) (by (repeat' first | assumption | refine bl_ud ?_ ?_ _) <;> omega) (by (repeat' first | assumption | refine pgs_ud ?_ ?_ _) <;> first | assumption | omega) (fun x hx => ?_) (fun x => ?_)
    · first | rfl | (rw [pkA_s, pkA_s]; simp (disch := omega) only [ud_ne])
    · rw [pkA_s, pkA_s, pkA_s]
      by_cases hx : x = m 81 29
      · subst hx
        rw [if_pos rfl]
        simp (disch := omega) only [ud_eq, ud_ne]
        unfold lyF
        first | rw [if_pos (by omega), ov_pk (hp _) (hb _) (hp _) (hb _)] | rw [if_neg (by omega), if_pos (by omega), ov_pk (hp _) (hb _) (hp _) (hb _), abt_pk (hp _) (hb _) (hp _) (hb _)] | rw [if_neg (by omega), if_neg (by omega)]
      · rw [if_neg hx]
        simp (disch := omega) only [ud_ne]
