/-! A plan done: both sides. -/
abbrev PL2 : Type := Int × (Int → Int)
def plR (m : PM) (CF : Int → CLs) (w a b : Int) (s : PL2) : PL2 :=
  if w = 0 then (s.1, RQ m CF s.1 s.2 a (m 83 a) b)
  else if w = 1 then (s.1, wyF a s.1 s.2)
  else (s.1 + mnF a (12 - s.1), fun x => if x < mnF a (12 - s.1) then 0 else s.2 (x - mnF a (12 - s.1)))
def plS (m : PM) (CF : Int → CLs) : Int → PL2 → PL2 := fun i s => plR m CF (m 106 i) (m 107 i) (m 108 i) s
def DF (m : PM) (CF : Int → CLs) : PL2 := itN (plS m CF) (m 81 37).toNat (m 81 22, pc m)
def DN (m : PM) (CF : Int → CLs) (x : Int) : Int := if 0 ≤ x ∧ x ≤ 1 then (if x = 0 then rtF (DF m CF).1 (DF m CF).2 else swF (DF m CF).1 (DF m CF).2 99) else -1
theorem plR_AE {m m' : PM} (h : AE m m') (CF : Int → CLs) : plR m' CF = plR m CF := by
  funext w a b s; unfold plR; rw [RQ_AE h, h.2.2.2.2.2.1]
theorem plS_AE {m m' : PM} (h : AE m m') (CF : Int → CLs) : plS m' CF = plS m CF := by
  have h2 := plR_AE h CF
  obtain ⟨a1, a2, a3, a4, a5, a6, a7, a8, a9, a10, a11, a12, a13, a14⟩ := h
  funext i s; unfold plS; rw [h2, a12, a13, a14]
theorem DF_AE {m m' : PM} (h : AE m m') (CF : Int → CLs) : DF m' CF = DF m CF := by
  have h2 := plS_AE h CF
  obtain ⟨a1, a2, a3, a4, a5, a6, a7, a8, a9, a10, a11, a12, a13, a14⟩ := h
  unfold DF; rw [h2, a1, a2, a11]
theorem DN_AE {m m' : PM} (h : AE m m') (CF : Int → CLs) : DN m' CF = DN m CF := by
  funext x; unfold DN; rw [DF_AE h]
def pOK (m : PM) (w a b : Int) : Prop := (w = 0 ∧ (0 ≤ a ∧ a < m 81 0) ∧ (0 ≤ b ∧ b < m 81 5)) ∨ (w = 1 ∧ 0 ≤ a ∧ a ≤ 3) ∨ (w = 2 ∧ 1 ≤ a ∧ a ≤ 12)
theorem pl_in {m : PM} {CF : Int → CLs} {w a b : Int} {s : PL2} (hw : pOK m w a b) (h : 0 ≤ s.1 ∧ s.1 ≤ 12) : 0 ≤ (plR m CF w a b s).1 ∧ (plR m CF w a b s).1 ≤ 12 := by
  unfold plR
  by_cases h0 : w = 0
  · rw [if_pos h0]; exact h
  · rw [if_neg h0]
    by_cases h1 : w = 1
    · rw [if_pos h1]; exact h
    · rw [if_neg h1]
      unfold pOK at hw
      unfold mnF
      dsimp only
      split <;> omega
theorem pl_congr {m : PM} {CF : Int → CLs} {w a b N : Int} {c c' : Int → Int} (h : ∀ s, 0 ≤ s → s < N → c s = c' s) {s : Int} (h0 : 0 ≤ s) (h1 : s < (plR m CF w a b (N, c)).1) : (plR m CF w a b (N, c)).2 s = (plR m CF w a b (N, c')).2 s := by
  unfold plR at h1 ⊢
  by_cases e0 : w = 0
  · rw [if_pos e0] at h1 ⊢; rw [if_pos e0]; exact RQ_congr _ _ _ h h0 h1
  · rw [if_neg e0] at h1 ⊢; rw [if_neg e0]
    by_cases e1 : w = 1
    · rw [if_pos e1] at h1 ⊢; rw [if_pos e1]; exact wyF_congr h h0 h1
    · rw [if_neg e1] at h1 ⊢; rw [if_neg e1]
      dsimp only at h1 ⊢
      by_cases e2 : s < mnF a (12 - N)
      · rw [if_pos e2, if_pos e2]
      · rw [if_neg e2, if_neg e2]; exact h _ (by omega) (by omega)
theorem pl_fst (m : PM) (CF : Int → CLs) (w a b N : Int) (c c' : Int → Int) : (plR m CF w a b (N, c)).1 = (plR m CF w a b (N, c')).1 := by
  unfold plR; (repeat' split) <;> rfl
set_option maxHeartbeats 1000000 in
theorem k_doPlanned {d : Nat} {m0 : PM} {CF : Int → CLs} {w a b : Int} {m : PM} {dy : List (Nat × Nat)} {L : Nat} {Q : Option PV → PS → Prop} (hd : 5 ≤ d) (hI : Inv m0 m dy) (hJ : JF m dy CF) (hN : 0 ≤ m 62 1 ∧ m 62 1 ≤ 12) (hw : pOK m w a b) (o1 : ∀ m' : PM, KFr m m' → m' 62 1 = (plR m CF w a b (m 62 1, m 63)).1 → (∀ s, 0 ≤ s → s < m' 62 1 → m' 63 s = (plR m CF w a b (m 62 1, m 63)).2 s) → Q none (m', (none, (dy, L)))) : C d 104 [.inr (.inr 0), .inl w, .inl a, .inl b] (m, (none, (dy, L))) Q := by
  refine C_go (k := 4) hd xL_104 (fun d hd => ?_)
  show V d 104 (0, ([some (.inr (.inr 0)), some (.inl w), some (.inl a), some (.inl b)], ([], (m, (none, (dy, L)))))) Q
  obtain ⟨s1, s2, t1, t2, j1, j2⟩ := If hI
  rcases hw with hw | hw | hw
  · obtain ⟨i1, i2, i3, i4, i5, i6⟩ := It hI (t := a) (by omega)
    refine v_iload_n (n := 1) xB_104 dX10_doPlanned_0 rfl rfl ?_
    refine v_iconst (n := 2) xB_104 dX10_doPlanned_1 ⟨by decide, by decide⟩ rfl ?_
    refine v_ic_ne_y (t := 16) xB_104 dX10_doPlanned_2 (by decide) rfl (by first | omega | (simp only [sA_same, sA_s, ud_s, Int.reduceEq, if_true, if_false, ite_true, ite_false, ↓reduceIte, and_true, true_and, eq_self, Int.add_zero, Int.reduceAdd]; omega) | (simp (disch := omega) only [sA_same, sA_ne, ud_eq, ud_ne, Int.add_zero, Int.reduceAdd]; omega)) ?_
    refine v_iload_n (n := 17) xB_104 dX10_doPlanned_16 rfl rfl ?_
    refine v_iconst (n := 18) xB_104 dX10_doPlanned_17 ⟨by decide, by decide⟩ rfl ?_
    refine v_ic_ne_y (t := 32) xB_104 dX10_doPlanned_18 (by decide) rfl (by first | omega | (simp only [sA_same, sA_s, ud_s, Int.reduceEq, if_true, if_false, ite_true, ite_false, ↓reduceIte, and_true, true_and, eq_self, Int.add_zero, Int.reduceAdd]; omega) | (simp (disch := omega) only [sA_same, sA_ne, ud_eq, ud_ne, Int.add_zero, Int.reduceAdd]; omega)) ?_
    refine v_aload_n (n := 33) xB_104 dX10_doPlanned_32 rfl rfl ?_
    refine v_iload_n (n := 34) xB_104 dX10_doPlanned_33 rfl rfl ?_
    refine v_call_v (n := 37) xB_104 dX10_doPlanned_34 xO_104 iv_10_96 rfl (sh_0 _ _ _) rfl rfl rfl ?_
    refine k_isTray (by omega) (by first | omega | (simp only [sA_same, sA_s, ud_s, Int.reduceEq, if_true, if_false, ite_true, ite_false, ↓reduceIte, and_true, true_and, eq_self, Int.add_zero, Int.reduceAdd]; omega) | (simp (disch := omega) only [sA_same, sA_ne, ud_eq, ud_ne, Int.add_zero, Int.reduceAdd]; omega)) (fun g1 => ?_) (fun g2 => ?_)
    · (try simp (disch := omega) only [sA_same, sA_ne, sA_sA, sA_sr, sB_s, ud_eq, ud_ne, ud_ud, ud_sr, uB_s, Int.add_zero, Int.reduceAdd] at g1)
      refine v_if_eq_n (n := 40) xB_104 dX10_doPlanned_37 (by decide) rfl (by decide) ?_
      refine v_aload_n (n := 41) xB_104 dX10_doPlanned_40 rfl rfl ?_
      refine v_iload_n (n := 42) xB_104 dX10_doPlanned_41 rfl rfl ?_
      refine v_call_v (n := 45) xB_104 dX10_doPlanned_42 xO_104 iv_10_162 rfl (sh_0 _ _ _) rfl rfl rfl ?_
      refine k_isJob (by omega) (by first | omega | (simp only [sA_same, sA_s, ud_s, Int.reduceEq, if_true, if_false, ite_true, ite_false, ↓reduceIte, and_true, true_and, eq_self, Int.add_zero, Int.reduceAdd]; omega) | (simp (disch := omega) only [sA_same, sA_ne, ud_eq, ud_ne, Int.add_zero, Int.reduceAdd]; omega)) (fun g3 => ?_) (fun g4 => ?_)
      · (try simp (disch := omega) only [sA_same, sA_ne, sA_sA, sA_sr, sB_s, ud_eq, ud_ne, ud_ud, ud_sr, uB_s, Int.add_zero, Int.reduceAdd] at g3)
        refine v_if_eq_n (n := 48) xB_104 dX10_doPlanned_45 (by decide) rfl (by decide) ?_
        refine v_aload_n (n := 49) xB_104 dX10_doPlanned_48 rfl rfl ?_
        refine v_gf_s (n := 52) (kz := 6) xB_104 dX10_doPlanned_49 xO_104 fl_10_37 fg_10_6 (sh_0 _ _ _) rfl st_0_6 rfl ?_
        refine v_aload_n (n := 53) xB_104 dX10_doPlanned_52 rfl rfl ?_
        refine v_gf_s (n := 56) (kz := 7) xB_104 dX10_doPlanned_53 xO_104 fl_10_44 fg_10_7 (sh_0 _ _ _) rfl st_0_7 rfl ?_
        refine v_aload_n (n := 57) xB_104 dX10_doPlanned_56 rfl rfl ?_
        refine v_gf_s (n := 60) (kz := 0) xB_104 dX10_doPlanned_57 xO_104 fl_10_12 fg_10_0 (sh_0 _ _ _) rfl st_0_0 rfl ?_
        refine v_gf_s (n := 63) (kz := 1) xB_104 dX10_doPlanned_60 xO_104 fl_10_86 fg_6_1 (sh_1 _ _ _) rfl st_1_1 rfl ?_
        refine v_iload_n (n := 64) xB_104 dX10_doPlanned_63 rfl rfl ?_
        refine v_aald_s (n := 65) (lz := 5) xB_104 dX10_doPlanned_64 (sh_4 _ _ _) (by decide) rfl (by first | omega | (simp only [sA_same, sA_s, ud_s, Int.reduceEq, if_true, if_false, ite_true, ite_false, ↓reduceIte, and_true, true_and, eq_self, Int.add_zero, Int.reduceAdd]; omega) | (simp (disch := omega) only [sA_same, sA_ne, ud_eq, ud_ne, Int.add_zero, Int.reduceAdd]; omega)) (st_T (by omega)) rfl ?_
        refine v_aload_n (n := 66) xB_104 dX10_doPlanned_65 rfl rfl ?_
        refine v_gf_s (n := 69) (kz := 0) xB_104 dX10_doPlanned_66 xO_104 fl_10_12 fg_10_0 (sh_0 _ _ _) rfl st_0_0 rfl ?_
        refine v_gf_s (n := 72) (kz := 1) xB_104 dX10_doPlanned_69 xO_104 fl_10_86 fg_6_1 (sh_1 _ _ _) rfl st_1_1 rfl ?_
        refine v_iload_n (n := 73) xB_104 dX10_doPlanned_72 rfl rfl ?_
        refine v_aald_s (n := 74) (lz := 5) xB_104 dX10_doPlanned_73 (sh_4 _ _ _) (by decide) rfl (by first | omega | (simp only [sA_same, sA_s, ud_s, Int.reduceEq, if_true, if_false, ite_true, ite_false, ↓reduceIte, and_true, true_and, eq_self, Int.add_zero, Int.reduceAdd]; omega) | (simp (disch := omega) only [sA_same, sA_ne, ud_eq, ud_ne, Int.add_zero, Int.reduceAdd]; omega)) (st_T (by omega)) rfl ?_
        refine v_gf_i (n := 77) (kz := 1) xB_104 dX10_doPlanned_74 xO_104 fl_10_102 fg_9_1 rfl (sh_T (by first | omega | (simp only [sA_same, sA_s, ud_s, Int.reduceEq, if_true, if_false, ite_true, ite_false, ↓reduceIte, and_true, true_and, eq_self, Int.add_zero, Int.reduceAdd]; omega) | (simp (disch := omega) only [sA_same, sA_ne, ud_eq, ud_ne, Int.add_zero, Int.reduceAdd]; omega)) _ _ _) rfl rfl ?_
        refine v_aload_n (n := 78) xB_104 dX10_doPlanned_77 rfl rfl ?_
        refine v_gf_s (n := 81) (kz := 4) xB_104 dX10_doPlanned_78 xO_104 fl_10_30 fg_10_4 (sh_0 _ _ _) rfl st_0_4 rfl ?_
        refine v_iload_n (n := 82) xB_104 dX10_doPlanned_81 rfl rfl ?_
        refine v_aald_d (n := 83) (lz := 6) xB_104 dX10_doPlanned_82 (sh_59 _ _ _) (by decide) rfl (by first | omega | (simp only [sA_same, sA_s, ud_s, Int.reduceEq, if_true, if_false, ite_true, ite_false, ↓reduceIte, and_true, true_and, eq_self, Int.add_zero, Int.reduceAdd]; omega) | (simp (disch := omega) only [sA_same, sA_ne, ud_eq, ud_ne, Int.add_zero, Int.reduceAdd]; omega)) (st_59 (by omega)) rfl ?_
        refine v_call_v (n := 86) xB_104 dX10_doPlanned_83 xO_104 iv_10_171 rfl (sh_60 _ _ _) rfl rfl rfl ?_
        refine k_copy (by omega) (Or.inr (Or.inr (Or.inl rfl))) (by first | omega | (simp only [sA_same, sA_s, ud_s, Int.reduceEq, if_true, if_false, ite_true, ite_false, ↓reduceIte, and_true, true_and, eq_self, Int.add_zero, Int.reduceAdd]; omega) | (simp (disch := omega) only [sA_same, sA_ne, ud_eq, ud_ne, Int.add_zero, Int.reduceAdd]; omega)) (by first | omega | (simp only [sA_same, sA_s, ud_s, Int.reduceEq, if_true, if_false, ite_true, ite_false, ↓reduceIte, and_true, true_and, eq_self, Int.add_zero, Int.reduceAdd]; omega) | (simp (disch := omega) only [sA_same, sA_ne, ud_eq, ud_ne, Int.add_zero, Int.reduceAdd]; omega)) hI.2.1.2.1 hI.2.1.1 (by first | omega | (simp only [sA_same, sA_s, ud_s, Int.reduceEq, if_true, if_false, ite_true, ite_false, ↓reduceIte, and_true, true_and, eq_self, Int.add_zero, Int.reduceAdd]; omega) | (simp (disch := omega) only [sA_same, sA_ne, ud_eq, ud_ne, Int.add_zero, Int.reduceAdd]; omega)) (by first | omega | (simp only [sA_same, sA_s, ud_s, Int.reduceEq, if_true, if_false, ite_true, ite_false, ↓reduceIte, and_true, true_and, eq_self, Int.add_zero, Int.reduceAdd]; omega) | (simp (disch := omega) only [sA_same, sA_ne, ud_eq, ud_ne, Int.add_zero, Int.reduceAdd]; omega)) i5 (hJ b (by omega) (by omega)).1 (fun fo fc hfo hfc hfcv => ?_)
        (try simp (disch := omega) only [sA_same, sA_ne, sA_sA, sA_sr, sB_s, ud_eq, ud_ne, ud_ud, ud_sr, uB_s, Int.add_zero, Int.reduceAdd])
        refine v_return xB_104 dX10_doPlanned_86 xK_104 ?_
        (try simp (disch := omega) only [sA_same, sA_ne, sA_sA, sA_sr, sB_s, ud_eq, ud_ne, ud_ud, ud_sr, uB_s, Int.add_zero, Int.reduceAdd])
        refine o1 _ ?_ ?_ ?_
        · refine ⟨fun x hx => by simp (disch := omega) only [sA_ne], ?_, ?_, ?_⟩
          · simp (disch := omega) only [sA_same, sA_ne, sA_sA, sA_sr, sB_s, ud_eq, ud_ne, ud_ud, ud_sr, uB_s, Int.add_zero, Int.reduceAdd]; exact hfo
          · simp (disch := omega) only [sA_same, sA_ne, sA_sA, sA_sr, sB_s, ud_eq, ud_ne, ud_ud, ud_sr, uB_s, Int.add_zero, Int.reduceAdd]; exact hfc
          · simp (disch := omega) only [sA_same, sA_ne, sA_sA, sA_sr, sB_s, ud_eq, ud_ne, ud_ud, ud_sr, uB_s, Int.add_zero, Int.reduceAdd]; exact hI.2.1.2.2.1
        · simp (disch := omega) only [sA_same, sA_ne, sA_sA, sA_sr, sB_s, ud_eq, ud_ne, ud_ud, ud_sr, uB_s, Int.add_zero, Int.reduceAdd]
          unfold plR
          rw [if_pos hw.1]
        · intro s q1 q2
          simp (disch := omega) only [sA_same, sA_ne, sA_sA, sA_sr, sB_s, ud_eq, ud_ne, ud_ud, ud_sr, uB_s, Int.add_zero, Int.reduceAdd] at q2 ⊢
          unfold plR
          rw [if_pos hw.1]
          rw [hfcv s q1 q2]
          unfold RQ
          rw [i1, i2]
          exact cF_congr (fun _ _ _ => rfl) (fun i a b => i6 i a b) q1 q2
      · (try simp (disch := omega) only [sA_same, sA_ne, sA_sA, sA_sr, sB_s, ud_eq, ud_ne, ud_ud, ud_sr, uB_s, Int.add_zero, Int.reduceAdd] at g4)
        exfalso; omega
    · (try simp (disch := omega) only [sA_same, sA_ne, sA_sA, sA_sr, sB_s, ud_eq, ud_ne, ud_ud, ud_sr, uB_s, Int.add_zero, Int.reduceAdd] at g2)
      exfalso; omega
  · skip
    refine v_iload_n (n := 1) xB_104 dX10_doPlanned_0 rfl rfl ?_
    refine v_iconst (n := 2) xB_104 dX10_doPlanned_1 ⟨by decide, by decide⟩ rfl ?_
    refine v_ic_ne_n (n := 5) xB_104 dX10_doPlanned_2 (by decide) rfl (by first | omega | (simp only [sA_same, sA_s, ud_s, Int.reduceEq, if_true, if_false, ite_true, ite_false, ↓reduceIte, and_true, true_and, eq_self, Int.add_zero, Int.reduceAdd]; omega) | (simp (disch := omega) only [sA_same, sA_ne, ud_eq, ud_ne, Int.add_zero, Int.reduceAdd]; omega)) ?_
    refine v_aload_n (n := 6) xB_104 dX10_doPlanned_5 rfl rfl ?_
    refine v_gf_s (n := 9) (kz := 7) xB_104 dX10_doPlanned_6 xO_104 fl_10_44 fg_10_7 (sh_0 _ _ _) rfl st_0_7 rfl ?_
    refine v_iload_n (n := 10) xB_104 dX10_doPlanned_9 rfl rfl ?_
    refine v_call_v (n := 13) xB_104 dX10_doPlanned_10 xO_104 iv_10_135 rfl (sh_62 _ _ _) rfl rfl rfl ?_
    refine k_doWay (by omega) (Or.inr (Or.inr (Or.inl rfl))) (by first | omega | (simp only [sA_same, sA_s, ud_s, Int.reduceEq, if_true, if_false, ite_true, ite_false, ↓reduceIte, and_true, true_and, eq_self, Int.add_zero, Int.reduceAdd]; omega) | (simp (disch := omega) only [sA_same, sA_ne, ud_eq, ud_ne, Int.add_zero, Int.reduceAdd]; omega)) (by first | omega | (simp only [sA_same, sA_s, ud_s, Int.reduceEq, if_true, if_false, ite_true, ite_false, ↓reduceIte, and_true, true_and, eq_self, Int.add_zero, Int.reduceAdd]; omega) | (simp (disch := omega) only [sA_same, sA_ne, ud_eq, ud_ne, Int.add_zero, Int.reduceAdd]; omega)) hI.2.1.2.1 (fun f1 hf1 hfv => ?_)
    (try simp (disch := omega) only [sA_same, sA_ne, sA_sA, sA_sr, sB_s, ud_eq, ud_ne, ud_ud, ud_sr, uB_s, Int.add_zero, Int.reduceAdd])
    refine v_goto (t := 86) xB_104 dX10_doPlanned_13 (by decide) rfl ?_
    refine v_return xB_104 dX10_doPlanned_86 xK_104 ?_
    (try simp (disch := omega) only [sA_same, sA_ne, sA_sA, sA_sr, sB_s, ud_eq, ud_ne, ud_ud, ud_sr, uB_s, Int.add_zero, Int.reduceAdd])
    refine o1 _ ?_ ?_ ?_
    · refine ⟨fun x hx => by simp (disch := omega) only [sA_ne], ?_, ?_, ?_⟩
      · simp (disch := omega) only [sA_same, sA_ne, sA_sA, sA_sr, sB_s, ud_eq, ud_ne, ud_ud, ud_sr, uB_s, Int.add_zero, Int.reduceAdd]; exact hI.2.1.1
      · simp (disch := omega) only [sA_same, sA_ne, sA_sA, sA_sr, sB_s, ud_eq, ud_ne, ud_ud, ud_sr, uB_s, Int.add_zero, Int.reduceAdd]; exact hf1
      · simp (disch := omega) only [sA_same, sA_ne, sA_sA, sA_sr, sB_s, ud_eq, ud_ne, ud_ud, ud_sr, uB_s, Int.add_zero, Int.reduceAdd]; exact hI.2.1.2.2.1
    · simp (disch := omega) only [sA_same, sA_ne, sA_sA, sA_sr, sB_s, ud_eq, ud_ne, ud_ud, ud_sr, uB_s, Int.add_zero, Int.reduceAdd]
      unfold plR
      rw [if_neg (by omega), if_pos hw.1]
    · intro s q1 q2
      simp (disch := omega) only [sA_same, sA_ne, sA_sA, sA_sr, sB_s, ud_eq, ud_ne, ud_ud, ud_sr, uB_s, Int.add_zero, Int.reduceAdd] at q2 ⊢
      unfold plR
      rw [if_neg (by omega), if_pos hw.1]
      exact hfv s q1 q2
  · skip
    refine v_iload_n (n := 1) xB_104 dX10_doPlanned_0 rfl rfl ?_
    refine v_iconst (n := 2) xB_104 dX10_doPlanned_1 ⟨by decide, by decide⟩ rfl ?_
    refine v_ic_ne_y (t := 16) xB_104 dX10_doPlanned_2 (by decide) rfl (by first | omega | (simp only [sA_same, sA_s, ud_s, Int.reduceEq, if_true, if_false, ite_true, ite_false, ↓reduceIte, and_true, true_and, eq_self, Int.add_zero, Int.reduceAdd]; omega) | (simp (disch := omega) only [sA_same, sA_ne, ud_eq, ud_ne, Int.add_zero, Int.reduceAdd]; omega)) ?_
    refine v_iload_n (n := 17) xB_104 dX10_doPlanned_16 rfl rfl ?_
    refine v_iconst (n := 18) xB_104 dX10_doPlanned_17 ⟨by decide, by decide⟩ rfl ?_
    refine v_ic_ne_n (n := 21) xB_104 dX10_doPlanned_18 (by decide) rfl (by first | omega | (simp only [sA_same, sA_s, ud_s, Int.reduceEq, if_true, if_false, ite_true, ite_false, ↓reduceIte, and_true, true_and, eq_self, Int.add_zero, Int.reduceAdd]; omega) | (simp (disch := omega) only [sA_same, sA_ne, ud_eq, ud_ne, Int.add_zero, Int.reduceAdd]; omega)) ?_
    refine v_aload_n (n := 22) xB_104 dX10_doPlanned_21 rfl rfl ?_
    refine v_gf_s (n := 25) (kz := 7) xB_104 dX10_doPlanned_22 xO_104 fl_10_44 fg_10_7 (sh_0 _ _ _) rfl st_0_7 rfl ?_
    refine v_iload_n (n := 26) xB_104 dX10_doPlanned_25 rfl rfl ?_
    refine v_call_v (n := 29) xB_104 dX10_doPlanned_26 xO_104 iv_10_128 rfl (sh_62 _ _ _) rfl rfl rfl ?_
    refine k_putBlank (e := mnF a (12 - m 62 1)) (by omega) (Or.inr (Or.inr (Or.inl rfl))) (by first | omega | (simp only [sA_same, sA_s, ud_s, Int.reduceEq, if_true, if_false, ite_true, ite_false, ↓reduceIte, and_true, true_and, eq_self, Int.add_zero, Int.reduceAdd]; omega) | (simp (disch := omega) only [sA_same, sA_ne, ud_eq, ud_ne, Int.add_zero, Int.reduceAdd]; omega)) (by first | omega | (simp only [sA_same, sA_s, ud_s, Int.reduceEq, if_true, if_false, ite_true, ite_false, ↓reduceIte, and_true, true_and, eq_self, Int.add_zero, Int.reduceAdd]; omega) | (simp (disch := omega) only [sA_same, sA_ne, ud_eq, ud_ne, Int.add_zero, Int.reduceAdd]; omega)) hI.2.1.2.1 rfl (fun fp hf1 hfv => ?_)
    (try simp (disch := omega) only [sA_same, sA_ne, sA_sA, sA_sr, sB_s, ud_eq, ud_ne, ud_ud, ud_sr, uB_s, Int.add_zero, Int.reduceAdd])
    refine v_goto (t := 86) xB_104 dX10_doPlanned_29 (by decide) rfl ?_
    refine v_return xB_104 dX10_doPlanned_86 xK_104 ?_
    (try simp (disch := omega) only [sA_same, sA_ne, sA_sA, sA_sr, sB_s, ud_eq, ud_ne, ud_ud, ud_sr, uB_s, Int.add_zero, Int.reduceAdd])
    refine o1 _ ?_ ?_ ?_
    · refine ⟨fun x hx => by simp (disch := omega) only [sA_ne], ?_, ?_, ?_⟩
      · simp (disch := omega) only [sA_same, sA_ne, sA_sA, sA_sr, sB_s, ud_eq, ud_ne, ud_ud, ud_sr, uB_s, Int.add_zero, Int.reduceAdd]; exact hI.2.1.1
      · simp (disch := omega) only [sA_same, sA_ne, sA_sA, sA_sr, sB_s, ud_eq, ud_ne, ud_ud, ud_sr, uB_s, Int.add_zero, Int.reduceAdd]; exact hf1
      · simp (disch := omega) only [sA_same, sA_ne, sA_sA, sA_sr, sB_s, ud_eq, ud_ne, ud_ud, ud_sr, uB_s, Int.add_zero, Int.reduceAdd]; exact hI.2.1.2.2.1
    · simp (disch := omega) only [sA_same, sA_ne, sA_sA, sA_sr, sB_s, ud_eq, ud_ne, ud_ud, ud_sr, uB_s, Int.add_zero, Int.reduceAdd]
      unfold plR
      rw [if_neg (by omega), if_neg (by omega)]
    · intro s q1 q2
      simp (disch := omega) only [sA_same, sA_ne, sA_sA, sA_sr, sB_s, ud_eq, ud_ne, ud_ud, ud_sr, uB_s, Int.add_zero, Int.reduceAdd] at q2 ⊢
      unfold plR
      rw [if_neg (by omega), if_neg (by omega)]
      exact hfv s q1 q2
set_option maxHeartbeats 1000000 in
theorem k_done {d : Nat} {m0 : PM} {CF : Int → CLs} {x : Int} {m : PM} {dy : List (Nat × Nat)} {L : Nat} {Q : Option PV → PS → Prop} (hd : 6 ≤ d) (hI : Inv m0 m dy) (hJ : JF m dy CF) (o1 : ∀ m' : PM, KFr m m' → Q (some (.inl (DN m CF x))) (m', (none, (dy, L)))) : C d 103 [.inr (.inr 0), .inl x] (m, (none, (dy, L))) Q := by
  refine C_go (k := 5) hd xL_103 (fun d hd => ?_)
  show V d 103 (0, ([some (.inr (.inr 0)), some (.inl x), none], ([], (m, (none, (dy, L)))))) Q
  obtain ⟨s1, s2, t1, t2, j1, j2⟩ := If hI
  have u1 := hI.2.2.2.2.1.1
  refine v_iload_n (n := 1) xB_103 dX10_done_0 rfl rfl ?_
  refine v_call_s (n := 4) xB_103 dX10_done_1 xO_103 sp_10_82 (Or.inl rfl) iv_10_82 rfl rfl rfl rfl ?_
  refine k_isEither (by omega)  (fun g1 => ?_) (fun g2 => ?_)
  · (try simp (disch := omega) only [sA_same, sA_ne, sA_sA, sA_sr, sB_s, ud_eq, ud_ne, ud_ud, ud_sr, uB_s, Int.add_zero, Int.reduceAdd] at g1)
    refine v_if_ne_y (t := 9) xB_103 dX10_done_4 (by decide) rfl (by decide) ?_
    refine v_aload_n (n := 10) xB_103 dX10_done_9 rfl rfl ?_
    refine v_gf_s (n := 13) (kz := 7) xB_103 dX10_done_10 xO_103 fl_10_44 fg_10_7 (sh_0 _ _ _) rfl st_0_7 rfl ?_
    refine v_aload_n (n := 14) xB_103 dX10_done_13 rfl rfl ?_
    refine v_gf_s (n := 17) (kz := 0) xB_103 dX10_done_14 xO_103 fl_10_12 fg_10_0 (sh_0 _ _ _) rfl st_0_0 rfl ?_
    refine v_gf_s (n := 20) (kz := 0) xB_103 dX10_done_17 xO_103 fl_10_76 fg_6_0 (sh_1 _ _ _) rfl st_1_0 rfl ?_
    refine v_call_v (n := 23) xB_103 dX10_done_20 xO_103 iv_10_178 rfl (sh_62 _ _ _) rfl rfl rfl ?_
    refine k_pcopy (by omega) (Or.inr (Or.inr (Or.inl rfl))) (Or.inl rfl) ?_
    (try simp (disch := omega) only [sA_same, sA_ne, sA_sA, sA_sr, sB_s, ud_eq, ud_ne, ud_ud, ud_sr, uB_s, Int.add_zero, Int.reduceAdd])
    refine v_iconst (n := 24) xB_103 dX10_done_23 ⟨by decide, by decide⟩ rfl ?_
    refine v_istore_n2 (n := 25) xB_103 dX10_done_24 rfl rfl ?_
    refine lp_up (F := fun (k : Int) (m' : PM) => V d 103 (25, ([some (.inr (.inr 0)), some (.inl x), some (.inl (k))], ([], (m', (none, (dy, L)))))) Q) (E := fun (k : Int) (m' : PM) => KFr m (m') ∧ (0 ≤ (m') 62 1 ∧ (m') 62 1 ≤ 12) ∧ (m') 62 1 = (itN (plS m CF) (k).toNat (m 81 22, pc m)).1 ∧ (∀ s, 0 ≤ s → s < (m') 62 1 → (m') 63 s = (itN (plS m CF) (k).toNat (m 81 22, pc m)).2 s)) (a := 0) (b := m 81 37) ?_ ?_ (0) (_) (by first | omega | (simp only [sA_same, sA_s, ud_s, Int.reduceEq, if_true, if_false, ite_true, ite_false, ↓reduceIte, and_true, true_and, eq_self, Int.add_zero, Int.reduceAdd]; omega) | (simp (disch := omega) only [sA_same, sA_ne, ud_eq, ud_ne, Int.add_zero, Int.reduceAdd]; omega)) (by first | omega | (simp only [sA_same, sA_s, ud_s, Int.reduceEq, if_true, if_false, ite_true, ite_false, ↓reduceIte, and_true, true_and, eq_self, Int.add_zero, Int.reduceAdd]; omega) | (simp (disch := omega) only [sA_same, sA_ne, ud_eq, ud_ne, Int.add_zero, Int.reduceAdd]; omega)) ?_
    · intro m' hm
      show V d 103 (25, ([some (.inr (.inr 0)), some (.inl x), some (.inl (m 81 37))], ([], (m', (none, (dy, L)))))) Q
      have e93 : m' 9 3 = m 81 37 := by rw [hm.1.1 9 (by omega)]; exact hI.2.2.2.2.1.2.1
      refine v_iload_n (n := 26) xB_103 dX10_done_25 rfl rfl ?_
      refine v_aload_n (n := 27) xB_103 dX10_done_26 rfl rfl ?_
      refine v_gf_s (n := 30) (kz := 0) xB_103 dX10_done_27 xO_103 fl_10_12 fg_10_0 (sh_0 _ _ _) rfl st_0_0 rfl ?_
      refine v_gf_s (n := 33) (kz := 4) xB_103 dX10_done_30 xO_103 fl_10_237 fg_6_4 (sh_1 _ _ _) rfl st_1_4 rfl ?_
      refine v_gf_i (n := 36) (kz := 3) xB_103 dX10_done_33 xO_103 fl_10_212 fg_3_3 rfl (sh_9 _ _ _) rfl rfl ?_
      refine v_ic_ge_y (t := 85) xB_103 dX10_done_36 (by decide) rfl (by first | omega | (simp only [sA_same, sA_s, ud_s, Int.reduceEq, if_true, if_false, ite_true, ite_false, ↓reduceIte, and_true, true_and, eq_self, Int.add_zero, Int.reduceAdd]; omega) | (simp (disch := omega) only [sA_same, sA_ne, ud_eq, ud_ne, Int.add_zero, Int.reduceAdd]; omega)) ?_
      refine v_iload_n (n := 86) xB_103 dX10_done_85 rfl rfl ?_
      refine v_if_ne (t := 99) (n := 89) xB_103 dX10_done_86 (by decide) rfl rfl (fun g1 => ?_) (fun g1 => ?_)
      · refine v_aload_n (n := 100) xB_103 dX10_done_99 rfl rfl ?_
        refine v_gf_s (n := 103) (kz := 7) xB_103 dX10_done_100 xO_103 fl_10_44 fg_10_7 (sh_0 _ _ _) rfl st_0_7 rfl ?_
        refine v_bipush (n := 105) xB_103 dX10_done_103 ⟨by decide, by decide⟩ rfl ?_
        refine v_call_v (n := 108) xB_103 dX10_done_105 xO_103 iv_10_155 rfl (sh_62 _ _ _) rfl rfl rfl ?_
        refine k_sidesWith (by omega) (Or.inr (Or.inr (Or.inl rfl))) (by first | omega | (simp only [sA_same, sA_s, ud_s, Int.reduceEq, if_true, if_false, ite_true, ite_false, ↓reduceIte, and_true, true_and, eq_self, Int.add_zero, Int.reduceAdd]; omega) | (simp (disch := omega) only [sA_same, sA_ne, ud_eq, ud_ne, Int.add_zero, Int.reduceAdd]; omega)) hm.1.2.2.1 ?_
        refine v_ireturn0 xB_103 dX10_done_108 xK_103 ?_
        have hD : (DF m CF) = (m' 62 1, (DF m CF).2) := by unfold DF; rw [hm.2.2.1]
        refine q_eqI (o1 _ hm.1) ?_
        unfold DN
        rw [if_pos (by omega), hD]
        first
        | (rw [if_pos (by omega)]; exact (rtF_congr (fun s q1 q2 => hm.2.2.2 s q1 q2)).symm)
        | (rw [if_neg (by omega)]; exact (swF_congr (fun s q1 q2 => hm.2.2.2 s q1 q2) 99).symm)
      · refine v_aload_n (n := 90) xB_103 dX10_done_89 rfl rfl ?_
        refine v_gf_s (n := 93) (kz := 7) xB_103 dX10_done_90 xO_103 fl_10_44 fg_10_7 (sh_0 _ _ _) rfl st_0_7 rfl ?_
        refine v_call_v (n := 96) xB_103 dX10_done_93 xO_103 iv_10_138 rfl (sh_62 _ _ _) rfl rfl rfl ?_
        refine k_rights (by omega) (Or.inr (Or.inr (Or.inl rfl))) (by first | omega | (simp only [sA_same, sA_s, ud_s, Int.reduceEq, if_true, if_false, ite_true, ite_false, ↓reduceIte, and_true, true_and, eq_self, Int.add_zero, Int.reduceAdd]; omega) | (simp (disch := omega) only [sA_same, sA_ne, ud_eq, ud_ne, Int.add_zero, Int.reduceAdd]; omega)) hm.1.2.2.1 ?_
        refine v_goto (t := 108) xB_103 dX10_done_96 (by decide) rfl ?_
        refine v_ireturn0 xB_103 dX10_done_108 xK_103 ?_
        have hD : (DF m CF) = (m' 62 1, (DF m CF).2) := by unfold DF; rw [hm.2.2.1]
        refine q_eqI (o1 _ hm.1) ?_
        unfold DN
        rw [if_pos (by omega), hD]
        first
        | (rw [if_pos (by omega)]; exact (rtF_congr (fun s q1 q2 => hm.2.2.2 s q1 q2)).symm)
        | (rw [if_neg (by omega)]; exact (swF_congr (fun s q1 q2 => hm.2.2.2 s q1 q2) 99).symm)
    · intro k m' h1 h2 hm ih
      show V d 103 (25, ([some (.inr (.inr 0)), some (.inl x), some (.inl (k))], ([], (m', (none, (dy, L)))))) Q
      have e93 : m' 9 3 = m 81 37 := by rw [hm.1.1 9 (by omega)]; exact hI.2.2.2.2.1.2.1
      have e10 : m' 10 = m 10 := hm.1.1 10 (by omega)
      have e11 : m' 11 = m 11 := hm.1.1 11 (by omega)
      have e12 : m' 12 = m 12 := hm.1.1 12 (by omega)
      have e81 : m' 81 = m 81 := hm.1.1 81 (by omega)
      obtain ⟨r1, r2, r3, r4⟩ := hI.2.2.2.2.1.2.2 k (by omega) (by omega)
      have hok : pOK m' (m' 10 k) (m' 11 k) (m' 12 k) := by unfold pOK; rw [e10, e11, e12, e81]; exact r4
      have hpl : ∀ s, plR m CF (m 10 k) (m 11 k) (m 12 k) s = plS m CF k s := fun s => by
        unfold plS; rw [r1, r2, r3]
        by_cases e : m 10 k = 0
        · rw [if_pos e]
        · rw [if_neg e]; unfold plR; rw [if_neg e, if_neg e]
      refine v_iload_n (n := 26) xB_103 dX10_done_25 rfl rfl ?_
      refine v_aload_n (n := 27) xB_103 dX10_done_26 rfl rfl ?_
      refine v_gf_s (n := 30) (kz := 0) xB_103 dX10_done_27 xO_103 fl_10_12 fg_10_0 (sh_0 _ _ _) rfl st_0_0 rfl ?_
      refine v_gf_s (n := 33) (kz := 4) xB_103 dX10_done_30 xO_103 fl_10_237 fg_6_4 (sh_1 _ _ _) rfl st_1_4 rfl ?_
      refine v_gf_i (n := 36) (kz := 3) xB_103 dX10_done_33 xO_103 fl_10_212 fg_3_3 rfl (sh_9 _ _ _) rfl rfl ?_
      refine v_ic_ge_n (n := 39) xB_103 dX10_done_36 (by decide) rfl (by first | omega | (simp only [sA_same, sA_s, ud_s, Int.reduceEq, if_true, if_false, ite_true, ite_false, ↓reduceIte, and_true, true_and, eq_self, Int.add_zero, Int.reduceAdd]; omega) | (simp (disch := omega) only [sA_same, sA_ne, ud_eq, ud_ne, Int.add_zero, Int.reduceAdd]; omega)) ?_
      refine v_aload_n (n := 40) xB_103 dX10_done_39 rfl rfl ?_
      refine v_aload_n (n := 41) xB_103 dX10_done_40 rfl rfl ?_
      refine v_gf_s (n := 44) (kz := 0) xB_103 dX10_done_41 xO_103 fl_10_12 fg_10_0 (sh_0 _ _ _) rfl st_0_0 rfl ?_
      refine v_gf_s (n := 47) (kz := 4) xB_103 dX10_done_44 xO_103 fl_10_237 fg_6_4 (sh_1 _ _ _) rfl st_1_4 rfl ?_
      refine v_gf_s (n := 50) (kz := 0) xB_103 dX10_done_47 xO_103 fl_10_240 fg_3_0 (sh_9 _ _ _) rfl st_9_0 rfl ?_
      refine v_iload_n (n := 51) xB_103 dX10_done_50 rfl rfl ?_
      refine v_iaload (n := 52) (lz := 6) xB_103 dX10_done_51 (sh_10 _ _ _) rfl (by first | omega | (simp only [sA_same, sA_s, ud_s, Int.reduceEq, if_true, if_false, ite_true, ite_false, ↓reduceIte, and_true, true_and, eq_self, Int.add_zero, Int.reduceAdd]; omega) | (simp (disch := omega) only [sA_same, sA_ne, ud_eq, ud_ne, Int.add_zero, Int.reduceAdd]; omega)) rfl ?_
      refine v_aload_n (n := 53) xB_103 dX10_done_52 rfl rfl ?_
      refine v_gf_s (n := 56) (kz := 0) xB_103 dX10_done_53 xO_103 fl_10_12 fg_10_0 (sh_0 _ _ _) rfl st_0_0 rfl ?_
      refine v_gf_s (n := 59) (kz := 4) xB_103 dX10_done_56 xO_103 fl_10_237 fg_6_4 (sh_1 _ _ _) rfl st_1_4 rfl ?_
      refine v_gf_s (n := 62) (kz := 1) xB_103 dX10_done_59 xO_103 fl_10_243 fg_3_1 (sh_9 _ _ _) rfl st_9_1 rfl ?_
      refine v_iload_n (n := 63) xB_103 dX10_done_62 rfl rfl ?_
      refine v_iaload (n := 64) (lz := 6) xB_103 dX10_done_63 (sh_11 _ _ _) rfl (by first | omega | (simp only [sA_same, sA_s, ud_s, Int.reduceEq, if_true, if_false, ite_true, ite_false, ↓reduceIte, and_true, true_and, eq_self, Int.add_zero, Int.reduceAdd]; omega) | (simp (disch := omega) only [sA_same, sA_ne, ud_eq, ud_ne, Int.add_zero, Int.reduceAdd]; omega)) rfl ?_
      refine v_aload_n (n := 65) xB_103 dX10_done_64 rfl rfl ?_
      refine v_gf_s (n := 68) (kz := 0) xB_103 dX10_done_65 xO_103 fl_10_12 fg_10_0 (sh_0 _ _ _) rfl st_0_0 rfl ?_
      refine v_gf_s (n := 71) (kz := 4) xB_103 dX10_done_68 xO_103 fl_10_237 fg_6_4 (sh_1 _ _ _) rfl st_1_4 rfl ?_
      refine v_gf_s (n := 74) (kz := 2) xB_103 dX10_done_71 xO_103 fl_10_246 fg_3_2 (sh_9 _ _ _) rfl st_9_2 rfl ?_
      refine v_iload_n (n := 75) xB_103 dX10_done_74 rfl rfl ?_
      refine v_iaload (n := 76) (lz := 6) xB_103 dX10_done_75 (sh_12 _ _ _) rfl (by first | omega | (simp only [sA_same, sA_s, ud_s, Int.reduceEq, if_true, if_false, ite_true, ite_false, ↓reduceIte, and_true, true_and, eq_self, Int.add_zero, Int.reduceAdd]; omega) | (simp (disch := omega) only [sA_same, sA_ne, ud_eq, ud_ne, Int.add_zero, Int.reduceAdd]; omega)) rfl ?_
      refine v_call_v (n := 79) xB_103 dX10_done_76 xO_103 iv_10_249 rfl (sh_0 _ _ _) rfl rfl rfl ?_
      refine k_doPlanned (by omega) (Inv_K hI hm.1) (JF_K hJ hm.1) (by first | omega | (simp only [sA_same, sA_s, ud_s, Int.reduceEq, if_true, if_false, ite_true, ite_false, ↓reduceIte, and_true, true_and, eq_self, Int.add_zero, Int.reduceAdd]; omega) | (simp (disch := omega) only [sA_same, sA_ne, ud_eq, ud_ne, Int.add_zero, Int.reduceAdd]; omega)) hok (fun mA hK g62 g63 => ?_)
      rw [plR_AE (AE_K hm.1), e10, e11, e12, hpl] at g62 g63
      have hS : (itN (plS m CF) k.toNat (m 81 22, pc m)) = (m' 62 1, (itN (plS m CF) k.toNat (m 81 22, pc m)).2) := by rw [hm.2.2.1]
      have g64 : mA 62 1 = (itN (plS m CF) (k + 1).toNat (m 81 22, pc m)).1 := by rw [g62, itN_s h1, hS]; exact pl_fst _ _ _ _ _ _ _ _
      have hm2 : KFr m (mA) ∧ (0 ≤ (mA) 62 1 ∧ (mA) 62 1 ≤ 12) ∧ (mA) 62 1 = (itN (plS m CF) (k + 1).toNat (m 81 22, pc m)).1 ∧ (∀ s, 0 ≤ s → s < (mA) 62 1 → (mA) 63 s = (itN (plS m CF) (k + 1).toNat (m 81 22, pc m)).2 s) := ⟨KFr_trans hm.1 hK, by rw [g62, ← hpl, ← e10, ← e11, ← e12, ← plR_AE (AE_K hm.1)]; exact pl_in hok hm.2.1, g64, fun s q1 q2 => by
        rw [g63 s q1 q2, itN_s h1, hS]
        unfold plS
        rw [g62] at q2
        exact pl_congr hm.2.2.2 q1 q2⟩
      refine v_iinc2 (n := 82) xB_103 dX10_done_79 rfl (by first | omega | (simp only [sA_same, sA_s, ud_s, Int.reduceEq, if_true, if_false, ite_true, ite_false, ↓reduceIte, and_true, true_and, eq_self, Int.add_zero, Int.reduceAdd]; omega) | (simp (disch := omega) only [sA_same, sA_ne, ud_eq, ud_ne, Int.add_zero, Int.reduceAdd]; omega)) rfl ?_
      refine v_goto (t := 25) xB_103 dX10_done_82 (by decide) rfl ?_
      exact ih _ hm2
    · refine ⟨⟨fun a ha => by simp (disch := omega) only [sA_ne], ?_, ?_, ?_⟩, ?_, ?_, ?_⟩
      · simp (disch := omega) only [sA_same, sA_ne, sA_sA, sA_sr, sB_s, ud_eq, ud_ne, ud_ud, ud_sr, uB_s, Int.add_zero, Int.reduceAdd]; exact hI.2.1.1
      · simp (disch := omega) only [sA_same, sA_ne, sA_sA, sA_sr, sB_s, ud_eq, ud_ne, ud_ud, ud_sr, uB_s, Int.add_zero, Int.reduceAdd]; exact cp12_ok hI.1.2.2.1 hI.2.1.2.1
      · simp (disch := omega) only [sA_same, sA_ne, sA_sA, sA_sr, sB_s, ud_eq, ud_ne, ud_ud, ud_sr, uB_s, Int.add_zero, Int.reduceAdd]; exact hI.2.1.2.2.1
      · simp (disch := omega) only [sA_same, sA_ne, sA_sA, sA_sr, sB_s, ud_eq, ud_ne, ud_ud, ud_sr, uB_s, Int.add_zero, Int.reduceAdd]; omega
      · simp (disch := omega) only [sA_same, sA_ne, sA_sA, sA_sr, sB_s, ud_eq, ud_ne, ud_ud, ud_sr, uB_s, Int.add_zero, Int.reduceAdd]; rw [itN_0]; exact s2
      · intro s q1 q2
        simp (disch := omega) only [sA_same, sA_ne, sA_sA, sA_sr, sB_s, ud_eq, ud_ne, ud_ud, ud_sr, uB_s, Int.add_zero, Int.reduceAdd] at q2 ⊢
        rw [itN_0, cp12_at ⟨q1, by omega⟩]
        exact (hI.1.2.2.2.2.2 s q1 (by omega)).trans (pc_at s1 q1 (by omega)).symm
  · (try simp (disch := omega) only [sA_same, sA_ne, sA_sA, sA_sr, sB_s, ud_eq, ud_ne, ud_ud, ud_sr, uB_s, Int.add_zero, Int.reduceAdd] at g2)
    refine v_if_ne_n (n := 7) xB_103 dX10_done_4 (by decide) rfl (by decide) ?_
    refine v_iconst (n := 8) xB_103 dX10_done_7 ⟨by decide, by decide⟩ rfl ?_
    refine v_ireturn0 xB_103 dX10_done_8 xK_103 ?_
    refine q_eqI (o1 _ (KFr_refl hI)) ?_
    unfold DN
    rw [if_neg (by omega)]
