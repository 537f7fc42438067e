/-! The class: a run. -/
theorem mn60_s (p : Int) : mn60 p = if 60 < p then 60 else p := rfl
theorem okS_lt {s : Int} (h : okS s) : 0 ≤ s ∧ s < 65536 := h
set_option maxHeartbeats 4000000 in
theorem vk_copy {d : Nat} {t o p v kd : Int} {CL : CLs} {m : PM} {dy : List (Nat × Nat)} {L : Nat} {Q : Option PV → PS → Prop} {T : Nat} (hd : 3 ≤ d) (hp : pilA p) (ht : 0 ≤ t ∧ t < 5) (hN : 0 ≤ m p 1 ∧ m p 1 ≤ 12) (hc : okc (m (p + 1))) (hv : 0 ≤ v ∧ v ≤ 9) (hk6 : 0 ≤ kd ∧ kd ≤ 6) (hr : r9 (m (18 + 2 * t))) (hJ : JC m dy o CL) (hE : ∀ (pg : Int) (f : Int → Int) (x8 x9 x10 : Option PV), okc f → (∀ i : Nat, i < T → f i = oF kd v (m (18 + 2 * t)) CL (m p 1) (m (p + 1)) i) → V d 9 (213, ([some (.inr (.inr 60)), some (.inr (.inr p)), some (.inr (.inr (17 + 2 * t))), some (.inl v), some (.inr (.inr o)), some (.inl (pg)), some (.inl kd), some (.inl (T)), x8, x9, x10], ([], (setA (setA (m) 60 (ud (ud (m 60) 1 (T)) 2 (prF kd v T))) 61 (f), (none, (dy, L)))))) Q) : ∀ (F n : Nat) (pg : Int) (f : Int → Int) (x8 x9 x10 : Option PV), (n : Int) + F = m p 1 → tkF kd v CL F n = T → pg = pgF kd v CL n → okc f → (∀ i : Nat, i < n → f i = oF kd v (m (18 + 2 * t)) CL (m p 1) (m (p + 1)) i) → V d 9 (26, ([some (.inr (.inr 60)), some (.inr (.inr p)), some (.inr (.inr (17 + 2 * t))), some (.inl v), some (.inr (.inr o)), some (.inl (pg)), some (.inl kd), some (.inl (n)), x8, x9, x10], ([], (setA (setA (m) 60 (ud (ud (m 60) 1 (n)) 2 (prF kd v n))) 61 (f), (none, (dy, L)))))) Q := by
  intro F
  have hpd : p = 2 ∨ p = 28 ∨ p = 62 ∨ p = 64 := hp
  have ho : 129 ≤ o := hJ.1.1
  have hok := hJ.2.2.2
  have htl := tlW_in hok
  have htm : m o 1 = tlW CL := hJ.1.2.2.2
  have ho3 : 129 ≤ m o 3 := hJ.2.2.1.1
  induction F with
  | zero =>
    intro n pg f x8 x9 x10 hn hT hpg hf ho2
    have hT2 : n = T := hT
    subst hT2
    refine v_iload (n := 28) xB_9 dX1_copy_26 rfl rfl ?_
    refine v_aload_n (n := 29) xB_9 dX1_copy_28 rfl rfl ?_
    refine v_gf_i (n := 32) (kz := 1) xB_9 dX1_copy_29 xO_9 fl_1_32 fg_4_1 rfl (sh_P hp _ _ _) rfl rfl ?_
    refine v_ic_ge_y (t := 213) xB_9 dX1_copy_32 (by decide) rfl (by first | omega | (simp only [sA_same, sA_s, ud_s, Int.reduceEq, if_true, if_false, ite_true, ite_false, ↓reduceIte, and_true, true_and, eq_self, Int.add_zero, Int.reduceAdd]; omega) | (simp (disch := omega) only [sA_same, sA_ne, ud_eq, ud_ne, Int.add_zero, Int.reduceAdd]; omega)) ?_
    exact hE _ _ _ _ _ hf ho2
  | succ F ih =>
    intro n pg f x8 x9 x10 hn hT hpg hf ho2
    have hpi := pgF_le kd v hok n
    have hq := qF_le kd v hok n
    have hqe : qF kd v CL n = nxF kd v n CL pg := by rw [hpg]; rfl
    have hpr := prF_in kd v n
    have hgo : spF kd v CL n = false → tkF kd v CL F (n + 1) = T := fun e => by rw [← hT, tkF_go e]
    have hst : spF kd v CL n = true → n = T := fun e => by rw [← hT, tkF_stop e]
    have hpg1 : pgF kd v CL (n + 1) = if dryF kd v n = true then qF kd v CL n else qF kd v CL n + 1 := rfl
    have hpr1 : prF kd v (n + 1) = if dryF kd v n = true then prF kd v n else prF kd v n + 1 := rfl
    have hrr : 0 ≤ m (18 + 2 * t) ((n : Int) % 4) ∧ m (18 + 2 * t) ((n : Int) % 4) ≤ 9 := hr _
    by_cases hqt : qF kd v CL n ≤ tlW CL
    · have hpf : pfF (tlW CL) (nxF kd v n CL pg) = qF kd v CL n := by rw [← hqe]; unfold pfF; rw [if_pos hqt]
      have hpos := hq.1
      rcases (by omega : kd = 4 ∨ kd = 5 ∨ kd = 6 ∨ (kd ≠ 4 ∧ kd ≠ 5 ∧ kd ≠ 6)) with hk | hk | hk | hk
      · have hsh : okS (m (p + 1) (m p 1 - 1 - n)) := hc _
        refine v_iload (n := 28) xB_9 dX1_copy_26 rfl rfl ?_
        refine v_aload_n (n := 29) xB_9 dX1_copy_28 rfl rfl ?_
        refine v_gf_i (n := 32) (kz := 1) xB_9 dX1_copy_29 xO_9 fl_1_32 fg_4_1 rfl (sh_P hp _ _ _) rfl rfl ?_
        refine v_ic_ge_n (n := 35) xB_9 dX1_copy_32 (by decide) rfl (by first | omega | (simp only [sA_same, sA_s, ud_s, Int.reduceEq, if_true, if_false, ite_true, ite_false, ↓reduceIte, and_true, true_and, eq_self, Int.add_zero, Int.reduceAdd]; omega) | (simp (disch := omega) only [sA_same, sA_ne, ud_eq, ud_ne, Int.add_zero, Int.reduceAdd]; omega)) ?_
        refine v_aload (n := 37) xB_9 dX1_copy_35 rfl rfl ?_
        refine v_iload (n := 39) xB_9 dX1_copy_37 rfl rfl ?_
        refine v_iload (n := 41) xB_9 dX1_copy_39 rfl rfl ?_
        refine v_iload_n (n := 42) xB_9 dX1_copy_41 rfl rfl ?_
        refine v_iload (n := 44) xB_9 dX1_copy_42 rfl rfl ?_
        refine v_call_v (n := 47) xB_9 dX1_copy_44 xO_9 iv_1_37 rfl (sh_dyn' ho hJ.1.2.1 _ _) rfl rfl rfl ?_
        refine k_pageFrom (by omega) (JC_fr (m := m) (fun a ha => by simp (disch := omega) only [sA_ne]) _ _ _ hJ) (by first | omega | (simp only [sA_same, sA_s, ud_s, Int.reduceEq, if_true, if_false, ite_true, ite_false, ↓reduceIte, and_true, true_and, eq_self, Int.add_zero, Int.reduceAdd]; omega) | (simp (disch := omega) only [sA_same, sA_ne, ud_eq, ud_ne, Int.add_zero, Int.reduceAdd]; omega)) ?_
        rw [hpf]
        refine v_istore5 (n := 49) xB_9 dX1_copy_47 rfl rfl ?_
        refine v_iload (n := 51) xB_9 dX1_copy_49 rfl rfl ?_
        refine v_aload (n := 53) xB_9 dX1_copy_51 rfl rfl ?_
        refine v_gf_i (n := 56) (kz := 1) xB_9 dX1_copy_53 xO_9 fl_1_41 fg_2_1 rfl (sh_dyn' ho hJ.1.2.1 _ _) rfl rfl ?_
        refine v_ic_gt_n (n := 59) xB_9 dX1_copy_56 (by decide) rfl (by first | omega | (simp only [sA_same, sA_s, ud_s, Int.reduceEq, if_true, if_false, ite_true, ite_false, ↓reduceIte, and_true, true_and, eq_self, Int.add_zero, Int.reduceAdd]; omega) | (simp (disch := omega) only [sA_same, sA_ne, ud_eq, ud_ne, Int.add_zero, Int.reduceAdd]; omega)) ?_
        refine v_iload (n := 61) xB_9 dX1_copy_59 rfl rfl ?_
        refine v_iconst (n := 62) xB_9 dX1_copy_61 ⟨by decide, by decide⟩ rfl ?_
        refine v_ic_ne_y (t := 74) xB_9 dX1_copy_62 (by decide) rfl (by first | omega | (simp only [sA_same, sA_s, ud_s, Int.reduceEq, if_true, if_false, ite_true, ite_false, ↓reduceIte, and_true, true_and, eq_self, Int.add_zero, Int.reduceAdd]; omega) | (simp (disch := omega) only [sA_same, sA_ne, ud_eq, ud_ne, Int.add_zero, Int.reduceAdd]; omega)) ?_
        refine v_aload_n (n := 75) xB_9 dX1_copy_74 rfl rfl ?_
        refine v_gf_s (n := 78) (kz := 0) xB_9 dX1_copy_75 xO_9 fl_1_44 fg_4_0 (sh_P hp _ _ _) rfl (st_P hp) rfl ?_
        refine v_iload (n := 80) xB_9 dX1_copy_78 rfl rfl ?_
        refine v_iconst (n := 81) xB_9 dX1_copy_80 ⟨by decide, by decide⟩ rfl ?_
        refine v_ic_ne_n (n := 84) xB_9 dX1_copy_81 (by decide) rfl (by first | omega | (simp only [sA_same, sA_s, ud_s, Int.reduceEq, if_true, if_false, ite_true, ite_false, ↓reduceIte, and_true, true_and, eq_self, Int.add_zero, Int.reduceAdd]; omega) | (simp (disch := omega) only [sA_same, sA_ne, ud_eq, ud_ne, Int.add_zero, Int.reduceAdd]; omega)) ?_
        refine v_aload_n (n := 85) xB_9 dX1_copy_84 rfl rfl ?_
        refine v_gf_i (n := 88) (kz := 1) xB_9 dX1_copy_85 xO_9 fl_1_32 fg_4_1 rfl (sh_P hp _ _ _) rfl rfl ?_
        refine v_iconst (n := 89) xB_9 dX1_copy_88 ⟨by decide, by decide⟩ rfl ?_
        refine v_isub (n := 90) xB_9 dX1_copy_89 (by first | omega | (simp only [sA_same, sA_s, ud_s, Int.reduceEq, if_true, if_false, ite_true, ite_false, ↓reduceIte, and_true, true_and, eq_self, Int.add_zero, Int.reduceAdd]; omega) | (simp (disch := omega) only [sA_same, sA_ne, ud_eq, ud_ne, Int.add_zero, Int.reduceAdd]; omega)) rfl ?_
        refine v_iload (n := 92) xB_9 dX1_copy_90 rfl rfl ?_
        refine v_isub (n := 93) xB_9 dX1_copy_92 (by first | omega | (simp only [sA_same, sA_s, ud_s, Int.reduceEq, if_true, if_false, ite_true, ite_false, ↓reduceIte, and_true, true_and, eq_self, Int.add_zero, Int.reduceAdd]; omega) | (simp (disch := omega) only [sA_same, sA_ne, ud_eq, ud_ne, Int.add_zero, Int.reduceAdd]; omega)) rfl ?_
        refine v_goto (t := 98) xB_9 dX1_copy_93 (by decide) rfl ?_
        refine v_iaload (n := 99) (lz := 12) xB_9 dX1_copy_98 (sh_PA hp _ _ _) rfl (by first | omega | (simp only [sA_same, sA_s, ud_s, Int.reduceEq, if_true, if_false, ite_true, ite_false, ↓reduceIte, and_true, true_and, eq_self, Int.add_zero, Int.reduceAdd]; omega) | (simp (disch := omega) only [sA_same, sA_ne, ud_eq, ud_ne, Int.add_zero, Int.reduceAdd]; omega)) rfl ?_
        refine v_istore8 (n := 101) xB_9 dX1_copy_99 rfl rfl ?_
        (try simp (disch := omega) only [sA_same, sA_ne, sA_sA, sA_sr, sB_s, ud_eq, ud_ne, ud_ud, ud_sr, uB_s, Int.add_zero, Int.reduceAdd])
        refine v_iload (n := 103) xB_9 dX1_copy_101 rfl rfl ?_
        refine v_iload_n (n := 104) xB_9 dX1_copy_103 rfl rfl ?_
        refine v_iload (n := 106) xB_9 dX1_copy_104 rfl rfl ?_
        refine v_call_s (n := 109) xB_9 dX1_copy_106 xO_9 sp_1_47 (Or.inl rfl) iv_1_47 rfl rfl rfl rfl ?_
        refine k_isDry (by omega) (by first | omega | (simp only [sA_same, sA_s, ud_s, Int.reduceEq, if_true, if_false, ite_true, ite_false, ↓reduceIte, and_true, true_and, eq_self, Int.add_zero, Int.reduceAdd]; omega) | (simp (disch := omega) only [sA_same, sA_ne, ud_eq, ud_ne, Int.add_zero, Int.reduceAdd]; omega)) (by first | omega | (simp only [sA_same, sA_s, ud_s, Int.reduceEq, if_true, if_false, ite_true, ite_false, ↓reduceIte, and_true, true_and, eq_self, Int.add_zero, Int.reduceAdd]; omega) | (simp (disch := omega) only [sA_same, sA_ne, ud_eq, ud_ne, Int.add_zero, Int.reduceAdd]; omega)) (fun g1 => ?_) (fun g2 => ?_)
        · (try simp (disch := omega) only [sA_same, sA_ne, sA_sA, sA_sr, sB_s, ud_eq, ud_ne, ud_ud, ud_sr, uB_s, Int.add_zero, Int.reduceAdd] at g1)
          exact absurd (of_decide_eq_true (p := (kd = 3 ∨ kd = 6) ∧ ((n : Int) + 1) % (v + 2) = 0) (by assumption)) (by omega)
        · (try simp (disch := omega) only [sA_same, sA_ne, sA_sA, sA_sr, sB_s, ud_eq, ud_ne, ud_ud, ud_sr, uB_s, Int.add_zero, Int.reduceAdd] at g2)
          refine v_if_ne_n (n := 112) xB_9 dX1_copy_109 (by decide) rfl (by decide) ?_
          refine v_aload (n := 114) xB_9 dX1_copy_112 rfl rfl ?_
          refine v_gf_d (n := 117) (kz := 3) xB_9 dX1_copy_114 xO_9 fl_1_51 fg_2_3 (sh_dyn' ho hJ.1.2.1 _ _) rfl (st_dyn _ (by omega)) rfl ?_
          (try simp (disch := omega) only [sA_same, sA_ne, sA_sA, sA_sr, sB_s, ud_eq, ud_ne, ud_ud, ud_sr, uB_s, Int.add_zero, Int.reduceAdd])
          refine v_iload (n := 119) xB_9 dX1_copy_117 rfl rfl ?_
          refine v_iload (n := 121) xB_9 dX1_copy_119 rfl rfl ?_
          refine v_iload_n (n := 122) xB_9 dX1_copy_121 rfl rfl ?_
          refine v_iload (n := 124) xB_9 dX1_copy_122 rfl rfl ?_
          refine v_call_s (n := 127) xB_9 dX1_copy_124 xO_9 sp_1_54 (Or.inl rfl) iv_1_54 rfl rfl rfl rfl ?_
          refine k_holds (by omega) hJ.2.2.1.1 hJ.2.2.1.2.1 (by first | omega | (simp only [sA_same, sA_s, ud_s, Int.reduceEq, if_true, if_false, ite_true, ite_false, ↓reduceIte, and_true, true_and, eq_self, Int.add_zero, Int.reduceAdd]; omega) | (simp (disch := omega) only [sA_same, sA_ne, ud_eq, ud_ne, Int.add_zero, Int.reduceAdd]; omega)) hJ.2.2.1.2.2.2 (by simp (disch := omega) only [sA_ne]; exact hJ.2.2.1.2.2.1) (hg_stW hok 3 (by omega)) (fun gH => ?_) (fun gH => ?_)
          · (try simp (disch := omega) only [sA_same, sA_ne, sA_sA, sA_sr, sB_s, ud_eq, ud_ne, ud_ud, ud_sr, uB_s, Int.add_zero, Int.reduceAdd] at g3)
            refine v_istore9 (n := 129) xB_9 dX1_copy_127 rfl rfl ?_
            refine v_iload (n := 131) xB_9 dX1_copy_129 rfl rfl ?_
            refine v_bipush (n := 133) xB_9 dX1_copy_131 ⟨by decide, by decide⟩ rfl ?_
            refine v_ic_ne_y (t := 148) xB_9 dX1_copy_133 (by decide) rfl (by first | omega | (simp only [sA_same, sA_s, ud_s, Int.reduceEq, if_true, if_false, ite_true, ite_false, ↓reduceIte, and_true, true_and, eq_self, Int.add_zero, Int.reduceAdd]; omega) | (simp (disch := omega) only [sA_same, sA_ne, ud_eq, ud_ne, Int.add_zero, Int.reduceAdd]; omega)) ?_
            refine v_iconst (n := 149) xB_9 dX1_copy_148 ⟨by decide, by decide⟩ rfl ?_
            refine v_istore10 (n := 151) xB_9 dX1_copy_149 rfl rfl ?_
            refine v_iload (n := 153) xB_9 dX1_copy_151 rfl rfl ?_
            refine v_iload (n := 155) xB_9 dX1_copy_153 rfl rfl ?_
            refine v_iload (n := 157) xB_9 dX1_copy_155 rfl rfl ?_
            refine v_iadd (n := 158) xB_9 dX1_copy_157 (by first | omega | (simp only [sA_same, sA_s, ud_s, Int.reduceEq, if_true, if_false, ite_true, ite_false, ↓reduceIte, and_true, true_and, eq_self, Int.add_zero, Int.reduceAdd]; omega) | (simp (disch := omega) only [sA_same, sA_ne, ud_eq, ud_ne, Int.add_zero, Int.reduceAdd]; omega)) rfl ?_
            refine v_bipush (n := 160) xB_9 dX1_copy_158 ⟨by decide, by decide⟩ rfl ?_
            refine v_min (n := 163) xB_9 dX1_copy_160 xO_9 sp_1_61 rfl rfl ?_
            rw [← mn60_s]
            (try simp (disch := omega) only [sA_same, sA_ne, sA_sA, sA_sr, sB_s, ud_eq, ud_ne, ud_ud, ud_sr, uB_s, Int.add_zero, Int.reduceAdd])
            refine v_iload (n := 165) xB_9 dX1_copy_163 rfl rfl ?_
            refine v_call_s (n := 168) xB_9 dX1_copy_165 xO_9 sp_1_67 (Or.inl rfl) iv_1_67 rfl rfl rfl rfl ?_
            refine k_withPage (by omega) hsh (by have := (hr ((n : Int) % 4)); unfold mn60; split <;> omega) (by decide) ?_
            refine v_istore8 (n := 170) xB_9 dX1_copy_168 rfl rfl ?_
            refine v_aload_n (n := 171) xB_9 dX1_copy_170 rfl rfl ?_
            refine v_dup (n := 172) xB_9 dX1_copy_171 rfl rfl ?_
            refine v_gf_i (n := 175) (kz := 2) xB_9 dX1_copy_172 xO_9 fl_1_19 fg_1_2 rfl (sh_60 _ _ _) rfl rfl ?_
            refine v_iconst (n := 176) xB_9 dX1_copy_175 ⟨by decide, by decide⟩ rfl ?_
            refine v_iadd (n := 177) xB_9 dX1_copy_176 (by first | omega | (simp only [sA_same, sA_s, ud_s, Int.reduceEq, if_true, if_false, ite_true, ite_false, ↓reduceIte, and_true, true_and, eq_self, Int.add_zero, Int.reduceAdd]; omega) | (simp (disch := omega) only [sA_same, sA_ne, ud_eq, ud_ne, Int.add_zero, Int.reduceAdd]; omega)) rfl ?_
            refine v_pf_i (n := 180) (kz := 2) xB_9 dX1_copy_177 xO_9 fl_1_19 fg_1_2 (Or.inl fn_1_2) (sh_60 _ _ _) (by decide) rfl rfl ?_
            (try simp (disch := omega) only [sA_same, sA_ne, sA_sA, sA_sr, sB_s, ud_eq, ud_ne, ud_ud, ud_sr, uB_s, Int.add_zero, Int.reduceAdd])
            refine v_iinc5 (n := 183) xB_9 dX1_copy_180 rfl (by first | omega | (simp only [sA_same, sA_s, ud_s, Int.reduceEq, if_true, if_false, ite_true, ite_false, ↓reduceIte, and_true, true_and, eq_self, Int.add_zero, Int.reduceAdd]; omega) | (simp (disch := omega) only [sA_same, sA_ne, ud_eq, ud_ne, Int.add_zero, Int.reduceAdd]; omega)) rfl ?_
            refine v_aload_n (n := 184) xB_9 dX1_copy_183 rfl rfl ?_
            refine v_gf_s (n := 187) (kz := 0) xB_9 dX1_copy_184 xO_9 fl_1_9 fg_1_0 (sh_60 _ _ _) rfl st_60_0 rfl ?_
            refine v_iload (n := 189) xB_9 dX1_copy_187 rfl rfl ?_
            refine v_iload (n := 191) xB_9 dX1_copy_189 rfl rfl ?_
            refine v_iload (n := 193) xB_9 dX1_copy_191 rfl rfl ?_
            refine v_call_s (n := 196) xB_9 dX1_copy_193 xO_9 sp_1_71 (Or.inl rfl) iv_1_71 rfl rfl rfl rfl ?_
            refine k_laidOut (by omega) (by first | exact hsh | exact wpF_ok _ hsh (by have := (hr ((n : Int) % 4)); unfold mn60; split <;> omega) (by have := (hr ((n : Int) % 4)); unfold mn60; split <;> omega)) ?_
            refine v_iastore (n := 197) (lz := 12) xB_9 dX1_copy_196 (sh_61 _ _ _) (by decide) rfl (by first | omega | (simp only [sA_same, sA_s, ud_s, Int.reduceEq, if_true, if_false, ite_true, ite_false, ↓reduceIte, and_true, true_and, eq_self, Int.add_zero, Int.reduceAdd]; omega) | (simp (disch := omega) only [sA_same, sA_ne, ud_eq, ud_ne, Int.add_zero, Int.reduceAdd]; omega)) rfl ?_
            (try simp (disch := omega) only [sA_same, sA_ne, sA_sA, sA_sr, sB_s, ud_eq, ud_ne, ud_ud, ud_sr, uB_s, Int.add_zero, Int.reduceAdd])
            refine v_aload_n (n := 198) xB_9 dX1_copy_197 rfl rfl ?_
            refine v_dup (n := 199) xB_9 dX1_copy_198 rfl rfl ?_
            refine v_gf_i (n := 202) (kz := 1) xB_9 dX1_copy_199 xO_9 fl_1_15 fg_1_1 rfl (sh_60 _ _ _) rfl rfl ?_
            refine v_iconst (n := 203) xB_9 dX1_copy_202 ⟨by decide, by decide⟩ rfl ?_
            refine v_iadd (n := 204) xB_9 dX1_copy_203 (by first | omega | (simp only [sA_same, sA_s, ud_s, Int.reduceEq, if_true, if_false, ite_true, ite_false, ↓reduceIte, and_true, true_and, eq_self, Int.add_zero, Int.reduceAdd]; omega) | (simp (disch := omega) only [sA_same, sA_ne, ud_eq, ud_ne, Int.add_zero, Int.reduceAdd]; omega)) rfl ?_
            refine v_pf_i (n := 207) (kz := 1) xB_9 dX1_copy_204 xO_9 fl_1_15 fg_1_1 (Or.inl fn_1_1) (sh_60 _ _ _) (by decide) rfl rfl ?_
            (try simp (disch := omega) only [sA_same, sA_ne, sA_sA, sA_sr, sB_s, ud_eq, ud_ne, ud_ud, ud_sr, uB_s, Int.add_zero, Int.reduceAdd])
            refine v_iinc7 (n := 210) xB_9 dX1_copy_207 rfl (by first | omega | (simp only [sA_same, sA_s, ud_s, Int.reduceEq, if_true, if_false, ite_true, ite_false, ↓reduceIte, and_true, true_and, eq_self, Int.add_zero, Int.reduceAdd]; omega) | (simp (disch := omega) only [sA_same, sA_ne, ud_eq, ud_ne, Int.add_zero, Int.reduceAdd]; omega)) rfl ?_
            refine v_goto (t := 26) xB_9 dX1_copy_210 (by decide) rfl ?_
            have hd0 : dryF kd v n = false := by assumption
            rw [hd0, if_neg (by decide)] at hpg1 hpr1
            rw [vS_stW hok 3 (by omega)] at gH
            have hs1 : spF kd v CL n = false := by unfold spF; exact decide_eq_false (by omega)
            have hix : (if kd = 4 then m p 1 - 1 - (n : Int) else n) = (m p 1 - 1 - n) := by first | rw [if_pos hk] | rw [if_neg (by omega)]
            rw [← hpr1, ← Int.natCast_succ]
            refine ih (n + 1) _ _ _ _ _ (by omega) (hgo hs1) hpg1.symm (okc_ud hf (lyF_ok _ (wpF_ok _ hsh (by have := (hr ((n : Int) % 4)); unfold mn60; split <;> omega) (by have := (hr ((n : Int) % 4)); unfold mn60; split <;> omega))) _) (fun i hi => ?_)
            by_cases hx : (i : Int) = n
            · have hi2 : i = n := by omega
              subst hi2
              rw [ud_eq]
              unfold oF
              rw [hd0, if_neg (by decide), hix]
              rw [gH]
              rw [if_neg (by omega)]
              first | rfl | (simp only [Int.add_zero, decide_true, decide_false, Int.reduceEq]; done) | (simp only [Int.add_zero, decide_true, decide_false, Int.reduceEq]; rfl)
            · rw [ud_ne (by omega)]
              exact ho2 i (by omega)
          · (try simp (disch := omega) only [sA_same, sA_ne, sA_sA, sA_sr, sB_s, ud_eq, ud_ne, ud_ud, ud_sr, uB_s, Int.add_zero, Int.reduceAdd] at g4)
            refine v_istore9 (n := 129) xB_9 dX1_copy_127 rfl rfl ?_
            refine v_iload (n := 131) xB_9 dX1_copy_129 rfl rfl ?_
            refine v_bipush (n := 133) xB_9 dX1_copy_131 ⟨by decide, by decide⟩ rfl ?_
            refine v_ic_ne_y (t := 148) xB_9 dX1_copy_133 (by decide) rfl (by first | omega | (simp only [sA_same, sA_s, ud_s, Int.reduceEq, if_true, if_false, ite_true, ite_false, ↓reduceIte, and_true, true_and, eq_self, Int.add_zero, Int.reduceAdd]; omega) | (simp (disch := omega) only [sA_same, sA_ne, ud_eq, ud_ne, Int.add_zero, Int.reduceAdd]; omega)) ?_
            refine v_iconst (n := 149) xB_9 dX1_copy_148 ⟨by decide, by decide⟩ rfl ?_
            refine v_istore10 (n := 151) xB_9 dX1_copy_149 rfl rfl ?_
            refine v_iload (n := 153) xB_9 dX1_copy_151 rfl rfl ?_
            refine v_iload (n := 155) xB_9 dX1_copy_153 rfl rfl ?_
            refine v_iload (n := 157) xB_9 dX1_copy_155 rfl rfl ?_
            refine v_iadd (n := 158) xB_9 dX1_copy_157 (by first | omega | (simp only [sA_same, sA_s, ud_s, Int.reduceEq, if_true, if_false, ite_true, ite_false, ↓reduceIte, and_true, true_and, eq_self, Int.add_zero, Int.reduceAdd]; omega) | (simp (disch := omega) only [sA_same, sA_ne, ud_eq, ud_ne, Int.add_zero, Int.reduceAdd]; omega)) rfl ?_
            refine v_bipush (n := 160) xB_9 dX1_copy_158 ⟨by decide, by decide⟩ rfl ?_
            refine v_min (n := 163) xB_9 dX1_copy_160 xO_9 sp_1_61 rfl rfl ?_
            rw [← mn60_s]
            (try simp (disch := omega) only [sA_same, sA_ne, sA_sA, sA_sr, sB_s, ud_eq, ud_ne, ud_ud, ud_sr, uB_s, Int.add_zero, Int.reduceAdd])
            refine v_iload (n := 165) xB_9 dX1_copy_163 rfl rfl ?_
            refine v_call_s (n := 168) xB_9 dX1_copy_165 xO_9 sp_1_67 (Or.inl rfl) iv_1_67 rfl rfl rfl rfl ?_
            refine k_withPage (by omega) hsh (by have := (hr ((n : Int) % 4)); unfold mn60; split <;> omega) (by decide) ?_
            refine v_istore8 (n := 170) xB_9 dX1_copy_168 rfl rfl ?_
            refine v_aload_n (n := 171) xB_9 dX1_copy_170 rfl rfl ?_
            refine v_dup (n := 172) xB_9 dX1_copy_171 rfl rfl ?_
            refine v_gf_i (n := 175) (kz := 2) xB_9 dX1_copy_172 xO_9 fl_1_19 fg_1_2 rfl (sh_60 _ _ _) rfl rfl ?_
            refine v_iconst (n := 176) xB_9 dX1_copy_175 ⟨by decide, by decide⟩ rfl ?_
            refine v_iadd (n := 177) xB_9 dX1_copy_176 (by first | omega | (simp only [sA_same, sA_s, ud_s, Int.reduceEq, if_true, if_false, ite_true, ite_false, ↓reduceIte, and_true, true_and, eq_self, Int.add_zero, Int.reduceAdd]; omega) | (simp (disch := omega) only [sA_same, sA_ne, ud_eq, ud_ne, Int.add_zero, Int.reduceAdd]; omega)) rfl ?_
            refine v_pf_i (n := 180) (kz := 2) xB_9 dX1_copy_177 xO_9 fl_1_19 fg_1_2 (Or.inl fn_1_2) (sh_60 _ _ _) (by decide) rfl rfl ?_
            (try simp (disch := omega) only [sA_same, sA_ne, sA_sA, sA_sr, sB_s, ud_eq, ud_ne, ud_ud, ud_sr, uB_s, Int.add_zero, Int.reduceAdd])
            refine v_iinc5 (n := 183) xB_9 dX1_copy_180 rfl (by first | omega | (simp only [sA_same, sA_s, ud_s, Int.reduceEq, if_true, if_false, ite_true, ite_false, ↓reduceIte, and_true, true_and, eq_self, Int.add_zero, Int.reduceAdd]; omega) | (simp (disch := omega) only [sA_same, sA_ne, ud_eq, ud_ne, Int.add_zero, Int.reduceAdd]; omega)) rfl ?_
            refine v_aload_n (n := 184) xB_9 dX1_copy_183 rfl rfl ?_
            refine v_gf_s (n := 187) (kz := 0) xB_9 dX1_copy_184 xO_9 fl_1_9 fg_1_0 (sh_60 _ _ _) rfl st_60_0 rfl ?_
            refine v_iload (n := 189) xB_9 dX1_copy_187 rfl rfl ?_
            refine v_iload (n := 191) xB_9 dX1_copy_189 rfl rfl ?_
            refine v_iload (n := 193) xB_9 dX1_copy_191 rfl rfl ?_
            refine v_call_s (n := 196) xB_9 dX1_copy_193 xO_9 sp_1_71 (Or.inl rfl) iv_1_71 rfl rfl rfl rfl ?_
            refine k_laidOut (by omega) (by first | exact hsh | exact wpF_ok _ hsh (by have := (hr ((n : Int) % 4)); unfold mn60; split <;> omega) (by have := (hr ((n : Int) % 4)); unfold mn60; split <;> omega)) ?_
            refine v_iastore (n := 197) (lz := 12) xB_9 dX1_copy_196 (sh_61 _ _ _) (by decide) rfl (by first | omega | (simp only [sA_same, sA_s, ud_s, Int.reduceEq, if_true, if_false, ite_true, ite_false, ↓reduceIte, and_true, true_and, eq_self, Int.add_zero, Int.reduceAdd]; omega) | (simp (disch := omega) only [sA_same, sA_ne, ud_eq, ud_ne, Int.add_zero, Int.reduceAdd]; omega)) rfl ?_
            (try simp (disch := omega) only [sA_same, sA_ne, sA_sA, sA_sr, sB_s, ud_eq, ud_ne, ud_ud, ud_sr, uB_s, Int.add_zero, Int.reduceAdd])
            refine v_aload_n (n := 198) xB_9 dX1_copy_197 rfl rfl ?_
            refine v_dup (n := 199) xB_9 dX1_copy_198 rfl rfl ?_
            refine v_gf_i (n := 202) (kz := 1) xB_9 dX1_copy_199 xO_9 fl_1_15 fg_1_1 rfl (sh_60 _ _ _) rfl rfl ?_
            refine v_iconst (n := 203) xB_9 dX1_copy_202 ⟨by decide, by decide⟩ rfl ?_
            refine v_iadd (n := 204) xB_9 dX1_copy_203 (by first | omega | (simp only [sA_same, sA_s, ud_s, Int.reduceEq, if_true, if_false, ite_true, ite_false, ↓reduceIte, and_true, true_and, eq_self, Int.add_zero, Int.reduceAdd]; omega) | (simp (disch := omega) only [sA_same, sA_ne, ud_eq, ud_ne, Int.add_zero, Int.reduceAdd]; omega)) rfl ?_
            refine v_pf_i (n := 207) (kz := 1) xB_9 dX1_copy_204 xO_9 fl_1_15 fg_1_1 (Or.inl fn_1_1) (sh_60 _ _ _) (by decide) rfl rfl ?_
            (try simp (disch := omega) only [sA_same, sA_ne, sA_sA, sA_sr, sB_s, ud_eq, ud_ne, ud_ud, ud_sr, uB_s, Int.add_zero, Int.reduceAdd])
            refine v_iinc7 (n := 210) xB_9 dX1_copy_207 rfl (by first | omega | (simp only [sA_same, sA_s, ud_s, Int.reduceEq, if_true, if_false, ite_true, ite_false, ↓reduceIte, and_true, true_and, eq_self, Int.add_zero, Int.reduceAdd]; omega) | (simp (disch := omega) only [sA_same, sA_ne, ud_eq, ud_ne, Int.add_zero, Int.reduceAdd]; omega)) rfl ?_
            refine v_goto (t := 26) xB_9 dX1_copy_210 (by decide) rfl ?_
            have hd0 : dryF kd v n = false := by assumption
            rw [hd0, if_neg (by decide)] at hpg1 hpr1
            rw [vS_stW hok 3 (by omega)] at gH
            have hs1 : spF kd v CL n = false := by unfold spF; exact decide_eq_false (by omega)
            have hix : (if kd = 4 then m p 1 - 1 - (n : Int) else n) = (m p 1 - 1 - n) := by first | rw [if_pos hk] | rw [if_neg (by omega)]
            rw [← hpr1, ← Int.natCast_succ]
            refine ih (n + 1) _ _ _ _ _ (by omega) (hgo hs1) hpg1.symm (okc_ud hf (lyF_ok _ (wpF_ok _ hsh (by have := (hr ((n : Int) % 4)); unfold mn60; split <;> omega) (by have := (hr ((n : Int) % 4)); unfold mn60; split <;> omega))) _) (fun i hi => ?_)
            by_cases hx : (i : Int) = n
            · have hi2 : i = n := by omega
              subst hi2
              rw [ud_eq]
              unfold oF
              rw [hd0, if_neg (by decide), hix]
              rw [gH]
              rw [if_neg (by omega)]
              first | rfl | (simp only [Int.add_zero, decide_true, decide_false, Int.reduceEq]; done) | (simp only [Int.add_zero, decide_true, decide_false, Int.reduceEq]; rfl)
            · rw [ud_ne (by omega)]
              exact ho2 i (by omega)
      · have hsh : okS (m (p + 1) (n : Int)) := hc _
        refine v_iload (n := 28) xB_9 dX1_copy_26 rfl rfl ?_
        refine v_aload_n (n := 29) xB_9 dX1_copy_28 rfl rfl ?_
        refine v_gf_i (n := 32) (kz := 1) xB_9 dX1_copy_29 xO_9 fl_1_32 fg_4_1 rfl (sh_P hp _ _ _) rfl rfl ?_
        refine v_ic_ge_n (n := 35) xB_9 dX1_copy_32 (by decide) rfl (by first | omega | (simp only [sA_same, sA_s, ud_s, Int.reduceEq, if_true, if_false, ite_true, ite_false, ↓reduceIte, and_true, true_and, eq_self, Int.add_zero, Int.reduceAdd]; omega) | (simp (disch := omega) only [sA_same, sA_ne, ud_eq, ud_ne, Int.add_zero, Int.reduceAdd]; omega)) ?_
        refine v_aload (n := 37) xB_9 dX1_copy_35 rfl rfl ?_
        refine v_iload (n := 39) xB_9 dX1_copy_37 rfl rfl ?_
        refine v_iload (n := 41) xB_9 dX1_copy_39 rfl rfl ?_
        refine v_iload_n (n := 42) xB_9 dX1_copy_41 rfl rfl ?_
        refine v_iload (n := 44) xB_9 dX1_copy_42 rfl rfl ?_
        refine v_call_v (n := 47) xB_9 dX1_copy_44 xO_9 iv_1_37 rfl (sh_dyn' ho hJ.1.2.1 _ _) rfl rfl rfl ?_
        refine k_pageFrom (by omega) (JC_fr (m := m) (fun a ha => by simp (disch := omega) only [sA_ne]) _ _ _ hJ) (by first | omega | (simp only [sA_same, sA_s, ud_s, Int.reduceEq, if_true, if_false, ite_true, ite_false, ↓reduceIte, and_true, true_and, eq_self, Int.add_zero, Int.reduceAdd]; omega) | (simp (disch := omega) only [sA_same, sA_ne, ud_eq, ud_ne, Int.add_zero, Int.reduceAdd]; omega)) ?_
        rw [hpf]
        refine v_istore5 (n := 49) xB_9 dX1_copy_47 rfl rfl ?_
        refine v_iload (n := 51) xB_9 dX1_copy_49 rfl rfl ?_
        refine v_aload (n := 53) xB_9 dX1_copy_51 rfl rfl ?_
        refine v_gf_i (n := 56) (kz := 1) xB_9 dX1_copy_53 xO_9 fl_1_41 fg_2_1 rfl (sh_dyn' ho hJ.1.2.1 _ _) rfl rfl ?_
        refine v_ic_gt_n (n := 59) xB_9 dX1_copy_56 (by decide) rfl (by first | omega | (simp only [sA_same, sA_s, ud_s, Int.reduceEq, if_true, if_false, ite_true, ite_false, ↓reduceIte, and_true, true_and, eq_self, Int.add_zero, Int.reduceAdd]; omega) | (simp (disch := omega) only [sA_same, sA_ne, ud_eq, ud_ne, Int.add_zero, Int.reduceAdd]; omega)) ?_
        refine v_iload (n := 61) xB_9 dX1_copy_59 rfl rfl ?_
        refine v_iconst (n := 62) xB_9 dX1_copy_61 ⟨by decide, by decide⟩ rfl ?_
        refine v_ic_ne_n (n := 65) xB_9 dX1_copy_62 (by decide) rfl (by first | omega | (simp only [sA_same, sA_s, ud_s, Int.reduceEq, if_true, if_false, ite_true, ite_false, ↓reduceIte, and_true, true_and, eq_self, Int.add_zero, Int.reduceAdd]; omega) | (simp (disch := omega) only [sA_same, sA_ne, ud_eq, ud_ne, Int.add_zero, Int.reduceAdd]; omega)) ?_
        refine v_iload (n := 67) xB_9 dX1_copy_65 rfl rfl ?_
        refine v_iload_n (n := 68) xB_9 dX1_copy_67 rfl rfl ?_
        refine v_ic_le (t := 74) (n := 71) xB_9 dX1_copy_68 (by decide) rfl rfl (fun g1 => ?_) (fun g1 => ?_)
        · (try simp (disch := omega) only [sA_same, sA_ne, sA_sA, sA_sr, sB_s, ud_eq, ud_ne, ud_ud, ud_sr, uB_s, Int.add_zero, Int.reduceAdd] at g1)
          refine v_aload_n (n := 75) xB_9 dX1_copy_74 rfl rfl ?_
          refine v_gf_s (n := 78) (kz := 0) xB_9 dX1_copy_75 xO_9 fl_1_44 fg_4_0 (sh_P hp _ _ _) rfl (st_P hp) rfl ?_
          refine v_iload (n := 80) xB_9 dX1_copy_78 rfl rfl ?_
          refine v_iconst (n := 81) xB_9 dX1_copy_80 ⟨by decide, by decide⟩ rfl ?_
          refine v_ic_ne_y (t := 96) xB_9 dX1_copy_81 (by decide) rfl (by first | omega | (simp only [sA_same, sA_s, ud_s, Int.reduceEq, if_true, if_false, ite_true, ite_false, ↓reduceIte, and_true, true_and, eq_self, Int.add_zero, Int.reduceAdd]; omega) | (simp (disch := omega) only [sA_same, sA_ne, ud_eq, ud_ne, Int.add_zero, Int.reduceAdd]; omega)) ?_
          refine v_iload (n := 98) xB_9 dX1_copy_96 rfl rfl ?_
          refine v_iaload (n := 99) (lz := 12) xB_9 dX1_copy_98 (sh_PA hp _ _ _) rfl (by first | omega | (simp only [sA_same, sA_s, ud_s, Int.reduceEq, if_true, if_false, ite_true, ite_false, ↓reduceIte, and_true, true_and, eq_self, Int.add_zero, Int.reduceAdd]; omega) | (simp (disch := omega) only [sA_same, sA_ne, ud_eq, ud_ne, Int.add_zero, Int.reduceAdd]; omega)) rfl ?_
          refine v_istore8 (n := 101) xB_9 dX1_copy_99 rfl rfl ?_
          (try simp (disch := omega) only [sA_same, sA_ne, sA_sA, sA_sr, sB_s, ud_eq, ud_ne, ud_ud, ud_sr, uB_s, Int.add_zero, Int.reduceAdd])
          refine v_iload (n := 103) xB_9 dX1_copy_101 rfl rfl ?_
          refine v_iload_n (n := 104) xB_9 dX1_copy_103 rfl rfl ?_
          refine v_iload (n := 106) xB_9 dX1_copy_104 rfl rfl ?_
          refine v_call_s (n := 109) xB_9 dX1_copy_106 xO_9 sp_1_47 (Or.inl rfl) iv_1_47 rfl rfl rfl rfl ?_
          refine k_isDry (by omega) (by first | omega | (simp only [sA_same, sA_s, ud_s, Int.reduceEq, if_true, if_false, ite_true, ite_false, ↓reduceIte, and_true, true_and, eq_self, Int.add_zero, Int.reduceAdd]; omega) | (simp (disch := omega) only [sA_same, sA_ne, ud_eq, ud_ne, Int.add_zero, Int.reduceAdd]; omega)) (by first | omega | (simp only [sA_same, sA_s, ud_s, Int.reduceEq, if_true, if_false, ite_true, ite_false, ↓reduceIte, and_true, true_and, eq_self, Int.add_zero, Int.reduceAdd]; omega) | (simp (disch := omega) only [sA_same, sA_ne, ud_eq, ud_ne, Int.add_zero, Int.reduceAdd]; omega)) (fun g2 => ?_) (fun g3 => ?_)
          · (try simp (disch := omega) only [sA_same, sA_ne, sA_sA, sA_sr, sB_s, ud_eq, ud_ne, ud_ud, ud_sr, uB_s, Int.add_zero, Int.reduceAdd] at g2)
            exact absurd (of_decide_eq_true (p := (kd = 3 ∨ kd = 6) ∧ ((n : Int) + 1) % (v + 2) = 0) (by assumption)) (by omega)
          · (try simp (disch := omega) only [sA_same, sA_ne, sA_sA, sA_sr, sB_s, ud_eq, ud_ne, ud_ud, ud_sr, uB_s, Int.add_zero, Int.reduceAdd] at g3)
            refine v_if_ne_n (n := 112) xB_9 dX1_copy_109 (by decide) rfl (by decide) ?_
            refine v_aload (n := 114) xB_9 dX1_copy_112 rfl rfl ?_
            refine v_gf_d (n := 117) (kz := 3) xB_9 dX1_copy_114 xO_9 fl_1_51 fg_2_3 (sh_dyn' ho hJ.1.2.1 _ _) rfl (st_dyn _ (by omega)) rfl ?_
            (try simp (disch := omega) only [sA_same, sA_ne, sA_sA, sA_sr, sB_s, ud_eq, ud_ne, ud_ud, ud_sr, uB_s, Int.add_zero, Int.reduceAdd])
            refine v_iload (n := 119) xB_9 dX1_copy_117 rfl rfl ?_
            refine v_iload (n := 121) xB_9 dX1_copy_119 rfl rfl ?_
            refine v_iload_n (n := 122) xB_9 dX1_copy_121 rfl rfl ?_
            refine v_iload (n := 124) xB_9 dX1_copy_122 rfl rfl ?_
            refine v_call_s (n := 127) xB_9 dX1_copy_124 xO_9 sp_1_54 (Or.inl rfl) iv_1_54 rfl rfl rfl rfl ?_
            refine k_holds (by omega) hJ.2.2.1.1 hJ.2.2.1.2.1 (by first | omega | (simp only [sA_same, sA_s, ud_s, Int.reduceEq, if_true, if_false, ite_true, ite_false, ↓reduceIte, and_true, true_and, eq_self, Int.add_zero, Int.reduceAdd]; omega) | (simp (disch := omega) only [sA_same, sA_ne, ud_eq, ud_ne, Int.add_zero, Int.reduceAdd]; omega)) hJ.2.2.1.2.2.2 (by simp (disch := omega) only [sA_ne]; exact hJ.2.2.1.2.2.1) (hg_stW hok 3 (by omega)) (fun gH => ?_) (fun gH => ?_)
            · (try simp (disch := omega) only [sA_same, sA_ne, sA_sA, sA_sr, sB_s, ud_eq, ud_ne, ud_ud, ud_sr, uB_s, Int.add_zero, Int.reduceAdd] at g4)
              refine v_istore9 (n := 129) xB_9 dX1_copy_127 rfl rfl ?_
              refine v_iload (n := 131) xB_9 dX1_copy_129 rfl rfl ?_
              refine v_bipush (n := 133) xB_9 dX1_copy_131 ⟨by decide, by decide⟩ rfl ?_
              refine v_ic_ne_y (t := 148) xB_9 dX1_copy_133 (by decide) rfl (by first | omega | (simp only [sA_same, sA_s, ud_s, Int.reduceEq, if_true, if_false, ite_true, ite_false, ↓reduceIte, and_true, true_and, eq_self, Int.add_zero, Int.reduceAdd]; omega) | (simp (disch := omega) only [sA_same, sA_ne, ud_eq, ud_ne, Int.add_zero, Int.reduceAdd]; omega)) ?_
              refine v_iconst (n := 149) xB_9 dX1_copy_148 ⟨by decide, by decide⟩ rfl ?_
              refine v_istore10 (n := 151) xB_9 dX1_copy_149 rfl rfl ?_
              refine v_iload (n := 153) xB_9 dX1_copy_151 rfl rfl ?_
              refine v_iload (n := 155) xB_9 dX1_copy_153 rfl rfl ?_
              refine v_iload (n := 157) xB_9 dX1_copy_155 rfl rfl ?_
              refine v_iadd (n := 158) xB_9 dX1_copy_157 (by first | omega | (simp only [sA_same, sA_s, ud_s, Int.reduceEq, if_true, if_false, ite_true, ite_false, ↓reduceIte, and_true, true_and, eq_self, Int.add_zero, Int.reduceAdd]; omega) | (simp (disch := omega) only [sA_same, sA_ne, ud_eq, ud_ne, Int.add_zero, Int.reduceAdd]; omega)) rfl ?_
              refine v_bipush (n := 160) xB_9 dX1_copy_158 ⟨by decide, by decide⟩ rfl ?_
              refine v_min (n := 163) xB_9 dX1_copy_160 xO_9 sp_1_61 rfl rfl ?_
              rw [← mn60_s]
              (try simp (disch := omega) only [sA_same, sA_ne, sA_sA, sA_sr, sB_s, ud_eq, ud_ne, ud_ud, ud_sr, uB_s, Int.add_zero, Int.reduceAdd])
              refine v_iload (n := 165) xB_9 dX1_copy_163 rfl rfl ?_
              refine v_call_s (n := 168) xB_9 dX1_copy_165 xO_9 sp_1_67 (Or.inl rfl) iv_1_67 rfl rfl rfl rfl ?_
              refine k_withPage (by omega) hsh (by have := (hr ((n : Int) % 4)); unfold mn60; split <;> omega) (by decide) ?_
              refine v_istore8 (n := 170) xB_9 dX1_copy_168 rfl rfl ?_
              refine v_aload_n (n := 171) xB_9 dX1_copy_170 rfl rfl ?_
              refine v_dup (n := 172) xB_9 dX1_copy_171 rfl rfl ?_
              refine v_gf_i (n := 175) (kz := 2) xB_9 dX1_copy_172 xO_9 fl_1_19 fg_1_2 rfl (sh_60 _ _ _) rfl rfl ?_
              refine v_iconst (n := 176) xB_9 dX1_copy_175 ⟨by decide, by decide⟩ rfl ?_
              refine v_iadd (n := 177) xB_9 dX1_copy_176 (by first | omega | (simp only [sA_same, sA_s, ud_s, Int.reduceEq, if_true, if_false, ite_true, ite_false, ↓reduceIte, and_true, true_and, eq_self, Int.add_zero, Int.reduceAdd]; omega) | (simp (disch := omega) only [sA_same, sA_ne, ud_eq, ud_ne, Int.add_zero, Int.reduceAdd]; omega)) rfl ?_
              refine v_pf_i (n := 180) (kz := 2) xB_9 dX1_copy_177 xO_9 fl_1_19 fg_1_2 (Or.inl fn_1_2) (sh_60 _ _ _) (by decide) rfl rfl ?_
              (try simp (disch := omega) only [sA_same, sA_ne, sA_sA, sA_sr, sB_s, ud_eq, ud_ne, ud_ud, ud_sr, uB_s, Int.add_zero, Int.reduceAdd])
              refine v_iinc5 (n := 183) xB_9 dX1_copy_180 rfl (by first | omega | (simp only [sA_same, sA_s, ud_s, Int.reduceEq, if_true, if_false, ite_true, ite_false, ↓reduceIte, and_true, true_and, eq_self, Int.add_zero, Int.reduceAdd]; omega) | (simp (disch := omega) only [sA_same, sA_ne, ud_eq, ud_ne, Int.add_zero, Int.reduceAdd]; omega)) rfl ?_
              refine v_aload_n (n := 184) xB_9 dX1_copy_183 rfl rfl ?_
              refine v_gf_s (n := 187) (kz := 0) xB_9 dX1_copy_184 xO_9 fl_1_9 fg_1_0 (sh_60 _ _ _) rfl st_60_0 rfl ?_
              refine v_iload (n := 189) xB_9 dX1_copy_187 rfl rfl ?_
              refine v_iload (n := 191) xB_9 dX1_copy_189 rfl rfl ?_
              refine v_iload (n := 193) xB_9 dX1_copy_191 rfl rfl ?_
              refine v_call_s (n := 196) xB_9 dX1_copy_193 xO_9 sp_1_71 (Or.inl rfl) iv_1_71 rfl rfl rfl rfl ?_
              refine k_laidOut (by omega) (by first | exact hsh | exact wpF_ok _ hsh (by have := (hr ((n : Int) % 4)); unfold mn60; split <;> omega) (by have := (hr ((n : Int) % 4)); unfold mn60; split <;> omega)) ?_
              refine v_iastore (n := 197) (lz := 12) xB_9 dX1_copy_196 (sh_61 _ _ _) (by decide) rfl (by first | omega | (simp only [sA_same, sA_s, ud_s, Int.reduceEq, if_true, if_false, ite_true, ite_false, ↓reduceIte, and_true, true_and, eq_self, Int.add_zero, Int.reduceAdd]; omega) | (simp (disch := omega) only [sA_same, sA_ne, ud_eq, ud_ne, Int.add_zero, Int.reduceAdd]; omega)) rfl ?_
              (try simp (disch := omega) only [sA_same, sA_ne, sA_sA, sA_sr, sB_s, ud_eq, ud_ne, ud_ud, ud_sr, uB_s, Int.add_zero, Int.reduceAdd])
              refine v_aload_n (n := 198) xB_9 dX1_copy_197 rfl rfl ?_
              refine v_dup (n := 199) xB_9 dX1_copy_198 rfl rfl ?_
              refine v_gf_i (n := 202) (kz := 1) xB_9 dX1_copy_199 xO_9 fl_1_15 fg_1_1 rfl (sh_60 _ _ _) rfl rfl ?_
              refine v_iconst (n := 203) xB_9 dX1_copy_202 ⟨by decide, by decide⟩ rfl ?_
              refine v_iadd (n := 204) xB_9 dX1_copy_203 (by first | omega | (simp only [sA_same, sA_s, ud_s, Int.reduceEq, if_true, if_false, ite_true, ite_false, ↓reduceIte, and_true, true_and, eq_self, Int.add_zero, Int.reduceAdd]; omega) | (simp (disch := omega) only [sA_same, sA_ne, ud_eq, ud_ne, Int.add_zero, Int.reduceAdd]; omega)) rfl ?_
              refine v_pf_i (n := 207) (kz := 1) xB_9 dX1_copy_204 xO_9 fl_1_15 fg_1_1 (Or.inl fn_1_1) (sh_60 _ _ _) (by decide) rfl rfl ?_
              (try simp (disch := omega) only [sA_same, sA_ne, sA_sA, sA_sr, sB_s, ud_eq, ud_ne, ud_ud, ud_sr, uB_s, Int.add_zero, Int.reduceAdd])
              refine v_iinc7 (n := 210) xB_9 dX1_copy_207 rfl (by first | omega | (simp only [sA_same, sA_s, ud_s, Int.reduceEq, if_true, if_false, ite_true, ite_false, ↓reduceIte, and_true, true_and, eq_self, Int.add_zero, Int.reduceAdd]; omega) | (simp (disch := omega) only [sA_same, sA_ne, ud_eq, ud_ne, Int.add_zero, Int.reduceAdd]; omega)) rfl ?_
              refine v_goto (t := 26) xB_9 dX1_copy_210 (by decide) rfl ?_
              have hd0 : dryF kd v n = false := by assumption
              rw [hd0, if_neg (by decide)] at hpg1 hpr1
              rw [vS_stW hok 3 (by omega)] at gH
              have hs1 : spF kd v CL n = false := by unfold spF; exact decide_eq_false (by omega)
              have hix : (if kd = 4 then m p 1 - 1 - (n : Int) else n) = (n : Int) := by first | rw [if_pos hk] | rw [if_neg (by omega)]
              rw [← hpr1, ← Int.natCast_succ]
              refine ih (n + 1) _ _ _ _ _ (by omega) (hgo hs1) hpg1.symm (okc_ud hf (lyF_ok _ (wpF_ok _ hsh (by have := (hr ((n : Int) % 4)); unfold mn60; split <;> omega) (by have := (hr ((n : Int) % 4)); unfold mn60; split <;> omega))) _) (fun i hi => ?_)
              by_cases hx : (i : Int) = n
              · have hi2 : i = n := by omega
                subst hi2
                rw [ud_eq]
                unfold oF
                rw [hd0, if_neg (by decide), hix]
                rw [gH]
                rw [if_neg (by omega)]
                first | rfl | (simp only [Int.add_zero, decide_true, decide_false, Int.reduceEq]; done) | (simp only [Int.add_zero, decide_true, decide_false, Int.reduceEq]; rfl)
              · rw [ud_ne (by omega)]
                exact ho2 i (by omega)
            · (try simp (disch := omega) only [sA_same, sA_ne, sA_sA, sA_sr, sB_s, ud_eq, ud_ne, ud_ud, ud_sr, uB_s, Int.add_zero, Int.reduceAdd] at g5)
              refine v_istore9 (n := 129) xB_9 dX1_copy_127 rfl rfl ?_
              refine v_iload (n := 131) xB_9 dX1_copy_129 rfl rfl ?_
              refine v_bipush (n := 133) xB_9 dX1_copy_131 ⟨by decide, by decide⟩ rfl ?_
              refine v_ic_ne_y (t := 148) xB_9 dX1_copy_133 (by decide) rfl (by first | omega | (simp only [sA_same, sA_s, ud_s, Int.reduceEq, if_true, if_false, ite_true, ite_false, ↓reduceIte, and_true, true_and, eq_self, Int.add_zero, Int.reduceAdd]; omega) | (simp (disch := omega) only [sA_same, sA_ne, ud_eq, ud_ne, Int.add_zero, Int.reduceAdd]; omega)) ?_
              refine v_iconst (n := 149) xB_9 dX1_copy_148 ⟨by decide, by decide⟩ rfl ?_
              refine v_istore10 (n := 151) xB_9 dX1_copy_149 rfl rfl ?_
              refine v_iload (n := 153) xB_9 dX1_copy_151 rfl rfl ?_
              refine v_iload (n := 155) xB_9 dX1_copy_153 rfl rfl ?_
              refine v_iload (n := 157) xB_9 dX1_copy_155 rfl rfl ?_
              refine v_iadd (n := 158) xB_9 dX1_copy_157 (by first | omega | (simp only [sA_same, sA_s, ud_s, Int.reduceEq, if_true, if_false, ite_true, ite_false, ↓reduceIte, and_true, true_and, eq_self, Int.add_zero, Int.reduceAdd]; omega) | (simp (disch := omega) only [sA_same, sA_ne, ud_eq, ud_ne, Int.add_zero, Int.reduceAdd]; omega)) rfl ?_
              refine v_bipush (n := 160) xB_9 dX1_copy_158 ⟨by decide, by decide⟩ rfl ?_
              refine v_min (n := 163) xB_9 dX1_copy_160 xO_9 sp_1_61 rfl rfl ?_
              rw [← mn60_s]
              (try simp (disch := omega) only [sA_same, sA_ne, sA_sA, sA_sr, sB_s, ud_eq, ud_ne, ud_ud, ud_sr, uB_s, Int.add_zero, Int.reduceAdd])
              refine v_iload (n := 165) xB_9 dX1_copy_163 rfl rfl ?_
              refine v_call_s (n := 168) xB_9 dX1_copy_165 xO_9 sp_1_67 (Or.inl rfl) iv_1_67 rfl rfl rfl rfl ?_
              refine k_withPage (by omega) hsh (by have := (hr ((n : Int) % 4)); unfold mn60; split <;> omega) (by decide) ?_
              refine v_istore8 (n := 170) xB_9 dX1_copy_168 rfl rfl ?_
              refine v_aload_n (n := 171) xB_9 dX1_copy_170 rfl rfl ?_
              refine v_dup (n := 172) xB_9 dX1_copy_171 rfl rfl ?_
              refine v_gf_i (n := 175) (kz := 2) xB_9 dX1_copy_172 xO_9 fl_1_19 fg_1_2 rfl (sh_60 _ _ _) rfl rfl ?_
              refine v_iconst (n := 176) xB_9 dX1_copy_175 ⟨by decide, by decide⟩ rfl ?_
              refine v_iadd (n := 177) xB_9 dX1_copy_176 (by first | omega | (simp only [sA_same, sA_s, ud_s, Int.reduceEq, if_true, if_false, ite_true, ite_false, ↓reduceIte, and_true, true_and, eq_self, Int.add_zero, Int.reduceAdd]; omega) | (simp (disch := omega) only [sA_same, sA_ne, ud_eq, ud_ne, Int.add_zero, Int.reduceAdd]; omega)) rfl ?_
              refine v_pf_i (n := 180) (kz := 2) xB_9 dX1_copy_177 xO_9 fl_1_19 fg_1_2 (Or.inl fn_1_2) (sh_60 _ _ _) (by decide) rfl rfl ?_
              (try simp (disch := omega) only [sA_same, sA_ne, sA_sA, sA_sr, sB_s, ud_eq, ud_ne, ud_ud, ud_sr, uB_s, Int.add_zero, Int.reduceAdd])
              refine v_iinc5 (n := 183) xB_9 dX1_copy_180 rfl (by first | omega | (simp only [sA_same, sA_s, ud_s, Int.reduceEq, if_true, if_false, ite_true, ite_false, ↓reduceIte, and_true, true_and, eq_self, Int.add_zero, Int.reduceAdd]; omega) | (simp (disch := omega) only [sA_same, sA_ne, ud_eq, ud_ne, Int.add_zero, Int.reduceAdd]; omega)) rfl ?_
              refine v_aload_n (n := 184) xB_9 dX1_copy_183 rfl rfl ?_
              refine v_gf_s (n := 187) (kz := 0) xB_9 dX1_copy_184 xO_9 fl_1_9 fg_1_0 (sh_60 _ _ _) rfl st_60_0 rfl ?_
              refine v_iload (n := 189) xB_9 dX1_copy_187 rfl rfl ?_
              refine v_iload (n := 191) xB_9 dX1_copy_189 rfl rfl ?_
              refine v_iload (n := 193) xB_9 dX1_copy_191 rfl rfl ?_
              refine v_call_s (n := 196) xB_9 dX1_copy_193 xO_9 sp_1_71 (Or.inl rfl) iv_1_71 rfl rfl rfl rfl ?_
              refine k_laidOut (by omega) (by first | exact hsh | exact wpF_ok _ hsh (by have := (hr ((n : Int) % 4)); unfold mn60; split <;> omega) (by have := (hr ((n : Int) % 4)); unfold mn60; split <;> omega)) ?_
              refine v_iastore (n := 197) (lz := 12) xB_9 dX1_copy_196 (sh_61 _ _ _) (by decide) rfl (by first | omega | (simp only [sA_same, sA_s, ud_s, Int.reduceEq, if_true, if_false, ite_true, ite_false, ↓reduceIte, and_true, true_and, eq_self, Int.add_zero, Int.reduceAdd]; omega) | (simp (disch := omega) only [sA_same, sA_ne, ud_eq, ud_ne, Int.add_zero, Int.reduceAdd]; omega)) rfl ?_
              (try simp (disch := omega) only [sA_same, sA_ne, sA_sA, sA_sr, sB_s, ud_eq, ud_ne, ud_ud, ud_sr, uB_s, Int.add_zero, Int.reduceAdd])
              refine v_aload_n (n := 198) xB_9 dX1_copy_197 rfl rfl ?_
              refine v_dup (n := 199) xB_9 dX1_copy_198 rfl rfl ?_
              refine v_gf_i (n := 202) (kz := 1) xB_9 dX1_copy_199 xO_9 fl_1_15 fg_1_1 rfl (sh_60 _ _ _) rfl rfl ?_
              refine v_iconst (n := 203) xB_9 dX1_copy_202 ⟨by decide, by decide⟩ rfl ?_
              refine v_iadd (n := 204) xB_9 dX1_copy_203 (by first | omega | (simp only [sA_same, sA_s, ud_s, Int.reduceEq, if_true, if_false, ite_true, ite_false, ↓reduceIte, and_true, true_and, eq_self, Int.add_zero, Int.reduceAdd]; omega) | (simp (disch := omega) only [sA_same, sA_ne, ud_eq, ud_ne, Int.add_zero, Int.reduceAdd]; omega)) rfl ?_
              refine v_pf_i (n := 207) (kz := 1) xB_9 dX1_copy_204 xO_9 fl_1_15 fg_1_1 (Or.inl fn_1_1) (sh_60 _ _ _) (by decide) rfl rfl ?_
              (try simp (disch := omega) only [sA_same, sA_ne, sA_sA, sA_sr, sB_s, ud_eq, ud_ne, ud_ud, ud_sr, uB_s, Int.add_zero, Int.reduceAdd])
              refine v_iinc7 (n := 210) xB_9 dX1_copy_207 rfl (by first | omega | (simp only [sA_same, sA_s, ud_s, Int.reduceEq, if_true, if_false, ite_true, ite_false, ↓reduceIte, and_true, true_and, eq_self, Int.add_zero, Int.reduceAdd]; omega) | (simp (disch := omega) only [sA_same, sA_ne, ud_eq, ud_ne, Int.add_zero, Int.reduceAdd]; omega)) rfl ?_
              refine v_goto (t := 26) xB_9 dX1_copy_210 (by decide) rfl ?_
              have hd0 : dryF kd v n = false := by assumption
              rw [hd0, if_neg (by decide)] at hpg1 hpr1
              rw [vS_stW hok 3 (by omega)] at gH
              have hs1 : spF kd v CL n = false := by unfold spF; exact decide_eq_false (by omega)
              have hix : (if kd = 4 then m p 1 - 1 - (n : Int) else n) = (n : Int) := by first | rw [if_pos hk] | rw [if_neg (by omega)]
              rw [← hpr1, ← Int.natCast_succ]
              refine ih (n + 1) _ _ _ _ _ (by omega) (hgo hs1) hpg1.symm (okc_ud hf (lyF_ok _ (wpF_ok _ hsh (by have := (hr ((n : Int) % 4)); unfold mn60; split <;> omega) (by have := (hr ((n : Int) % 4)); unfold mn60; split <;> omega))) _) (fun i hi => ?_)
              by_cases hx : (i : Int) = n
              · have hi2 : i = n := by omega
                subst hi2
                rw [ud_eq]
                unfold oF
                rw [hd0, if_neg (by decide), hix]
                rw [gH]
                rw [if_neg (by omega)]
                first | rfl | (simp only [Int.add_zero, decide_true, decide_false, Int.reduceEq]; done) | (simp only [Int.add_zero, decide_true, decide_false, Int.reduceEq]; rfl)
              · rw [ud_ne (by omega)]
                exact ho2 i (by omega)
        · (try simp (disch := omega) only [sA_same, sA_ne, sA_sA, sA_sr, sB_s, ud_eq, ud_ne, ud_ud, ud_sr, uB_s, Int.add_zero, Int.reduceAdd] at g1)
          refine v_goto (t := 213) xB_9 dX1_copy_71 (by decide) rfl ?_
          have hs : n = T := hst (by unfold spF; exact decide_eq_true (by omega))
          subst hs
          exact hE _ _ _ _ _ hf ho2
      · have hsh : okS (m (p + 1) (n : Int)) := hc _
        refine v_iload (n := 28) xB_9 dX1_copy_26 rfl rfl ?_
        refine v_aload_n (n := 29) xB_9 dX1_copy_28 rfl rfl ?_
        refine v_gf_i (n := 32) (kz := 1) xB_9 dX1_copy_29 xO_9 fl_1_32 fg_4_1 rfl (sh_P hp _ _ _) rfl rfl ?_
        refine v_ic_ge_n (n := 35) xB_9 dX1_copy_32 (by decide) rfl (by first | omega | (simp only [sA_same, sA_s, ud_s, Int.reduceEq, if_true, if_false, ite_true, ite_false, ↓reduceIte, and_true, true_and, eq_self, Int.add_zero, Int.reduceAdd]; omega) | (simp (disch := omega) only [sA_same, sA_ne, ud_eq, ud_ne, Int.add_zero, Int.reduceAdd]; omega)) ?_
        refine v_aload (n := 37) xB_9 dX1_copy_35 rfl rfl ?_
        refine v_iload (n := 39) xB_9 dX1_copy_37 rfl rfl ?_
        refine v_iload (n := 41) xB_9 dX1_copy_39 rfl rfl ?_
        refine v_iload_n (n := 42) xB_9 dX1_copy_41 rfl rfl ?_
        refine v_iload (n := 44) xB_9 dX1_copy_42 rfl rfl ?_
        refine v_call_v (n := 47) xB_9 dX1_copy_44 xO_9 iv_1_37 rfl (sh_dyn' ho hJ.1.2.1 _ _) rfl rfl rfl ?_
        refine k_pageFrom (by omega) (JC_fr (m := m) (fun a ha => by simp (disch := omega) only [sA_ne]) _ _ _ hJ) (by first | omega | (simp only [sA_same, sA_s, ud_s, Int.reduceEq, if_true, if_false, ite_true, ite_false, ↓reduceIte, and_true, true_and, eq_self, Int.add_zero, Int.reduceAdd]; omega) | (simp (disch := omega) only [sA_same, sA_ne, ud_eq, ud_ne, Int.add_zero, Int.reduceAdd]; omega)) ?_
        rw [hpf]
        refine v_istore5 (n := 49) xB_9 dX1_copy_47 rfl rfl ?_
        refine v_iload (n := 51) xB_9 dX1_copy_49 rfl rfl ?_
        refine v_aload (n := 53) xB_9 dX1_copy_51 rfl rfl ?_
        refine v_gf_i (n := 56) (kz := 1) xB_9 dX1_copy_53 xO_9 fl_1_41 fg_2_1 rfl (sh_dyn' ho hJ.1.2.1 _ _) rfl rfl ?_
        refine v_ic_gt_n (n := 59) xB_9 dX1_copy_56 (by decide) rfl (by first | omega | (simp only [sA_same, sA_s, ud_s, Int.reduceEq, if_true, if_false, ite_true, ite_false, ↓reduceIte, and_true, true_and, eq_self, Int.add_zero, Int.reduceAdd]; omega) | (simp (disch := omega) only [sA_same, sA_ne, ud_eq, ud_ne, Int.add_zero, Int.reduceAdd]; omega)) ?_
        refine v_iload (n := 61) xB_9 dX1_copy_59 rfl rfl ?_
        refine v_iconst (n := 62) xB_9 dX1_copy_61 ⟨by decide, by decide⟩ rfl ?_
        refine v_ic_ne_y (t := 74) xB_9 dX1_copy_62 (by decide) rfl (by first | omega | (simp only [sA_same, sA_s, ud_s, Int.reduceEq, if_true, if_false, ite_true, ite_false, ↓reduceIte, and_true, true_and, eq_self, Int.add_zero, Int.reduceAdd]; omega) | (simp (disch := omega) only [sA_same, sA_ne, ud_eq, ud_ne, Int.add_zero, Int.reduceAdd]; omega)) ?_
        refine v_aload_n (n := 75) xB_9 dX1_copy_74 rfl rfl ?_
        refine v_gf_s (n := 78) (kz := 0) xB_9 dX1_copy_75 xO_9 fl_1_44 fg_4_0 (sh_P hp _ _ _) rfl (st_P hp) rfl ?_
        refine v_iload (n := 80) xB_9 dX1_copy_78 rfl rfl ?_
        refine v_iconst (n := 81) xB_9 dX1_copy_80 ⟨by decide, by decide⟩ rfl ?_
        refine v_ic_ne_y (t := 96) xB_9 dX1_copy_81 (by decide) rfl (by first | omega | (simp only [sA_same, sA_s, ud_s, Int.reduceEq, if_true, if_false, ite_true, ite_false, ↓reduceIte, and_true, true_and, eq_self, Int.add_zero, Int.reduceAdd]; omega) | (simp (disch := omega) only [sA_same, sA_ne, ud_eq, ud_ne, Int.add_zero, Int.reduceAdd]; omega)) ?_
        refine v_iload (n := 98) xB_9 dX1_copy_96 rfl rfl ?_
        refine v_iaload (n := 99) (lz := 12) xB_9 dX1_copy_98 (sh_PA hp _ _ _) rfl (by first | omega | (simp only [sA_same, sA_s, ud_s, Int.reduceEq, if_true, if_false, ite_true, ite_false, ↓reduceIte, and_true, true_and, eq_self, Int.add_zero, Int.reduceAdd]; omega) | (simp (disch := omega) only [sA_same, sA_ne, ud_eq, ud_ne, Int.add_zero, Int.reduceAdd]; omega)) rfl ?_
        refine v_istore8 (n := 101) xB_9 dX1_copy_99 rfl rfl ?_
        (try simp (disch := omega) only [sA_same, sA_ne, sA_sA, sA_sr, sB_s, ud_eq, ud_ne, ud_ud, ud_sr, uB_s, Int.add_zero, Int.reduceAdd])
        refine v_iload (n := 103) xB_9 dX1_copy_101 rfl rfl ?_
        refine v_iload_n (n := 104) xB_9 dX1_copy_103 rfl rfl ?_
        refine v_iload (n := 106) xB_9 dX1_copy_104 rfl rfl ?_
        refine v_call_s (n := 109) xB_9 dX1_copy_106 xO_9 sp_1_47 (Or.inl rfl) iv_1_47 rfl rfl rfl rfl ?_
        refine k_isDry (by omega) (by first | omega | (simp only [sA_same, sA_s, ud_s, Int.reduceEq, if_true, if_false, ite_true, ite_false, ↓reduceIte, and_true, true_and, eq_self, Int.add_zero, Int.reduceAdd]; omega) | (simp (disch := omega) only [sA_same, sA_ne, ud_eq, ud_ne, Int.add_zero, Int.reduceAdd]; omega)) (by first | omega | (simp only [sA_same, sA_s, ud_s, Int.reduceEq, if_true, if_false, ite_true, ite_false, ↓reduceIte, and_true, true_and, eq_self, Int.add_zero, Int.reduceAdd]; omega) | (simp (disch := omega) only [sA_same, sA_ne, ud_eq, ud_ne, Int.add_zero, Int.reduceAdd]; omega)) (fun g1 => ?_) (fun g2 => ?_)
        · (try simp (disch := omega) only [sA_same, sA_ne, sA_sA, sA_sr, sB_s, ud_eq, ud_ne, ud_ud, ud_sr, uB_s, Int.add_zero, Int.reduceAdd] at g1)
          refine v_if_ne_y (t := 183) xB_9 dX1_copy_109 (by decide) rfl (by decide) ?_
          refine v_aload_n (n := 184) xB_9 dX1_copy_183 rfl rfl ?_
          refine v_gf_s (n := 187) (kz := 0) xB_9 dX1_copy_184 xO_9 fl_1_9 fg_1_0 (sh_60 _ _ _) rfl st_60_0 rfl ?_
          refine v_iload (n := 189) xB_9 dX1_copy_187 rfl rfl ?_
          refine v_iload (n := 191) xB_9 dX1_copy_189 rfl rfl ?_
          refine v_iload (n := 193) xB_9 dX1_copy_191 rfl rfl ?_
          refine v_call_s (n := 196) xB_9 dX1_copy_193 xO_9 sp_1_71 (Or.inl rfl) iv_1_71 rfl rfl rfl rfl ?_
          refine k_laidOut (by omega) (by first | exact hsh | exact wpF_ok _ hsh (by have := (hr ((n : Int) % 4)); unfold mn60; split <;> omega) (by have := (hr ((n : Int) % 4)); unfold mn60; split <;> omega)) ?_
          refine v_iastore (n := 197) (lz := 12) xB_9 dX1_copy_196 (sh_61 _ _ _) (by decide) rfl (by first | omega | (simp only [sA_same, sA_s, ud_s, Int.reduceEq, if_true, if_false, ite_true, ite_false, ↓reduceIte, and_true, true_and, eq_self, Int.add_zero, Int.reduceAdd]; omega) | (simp (disch := omega) only [sA_same, sA_ne, ud_eq, ud_ne, Int.add_zero, Int.reduceAdd]; omega)) rfl ?_
          (try simp (disch := omega) only [sA_same, sA_ne, sA_sA, sA_sr, sB_s, ud_eq, ud_ne, ud_ud, ud_sr, uB_s, Int.add_zero, Int.reduceAdd])
          refine v_aload_n (n := 198) xB_9 dX1_copy_197 rfl rfl ?_
          refine v_dup (n := 199) xB_9 dX1_copy_198 rfl rfl ?_
          refine v_gf_i (n := 202) (kz := 1) xB_9 dX1_copy_199 xO_9 fl_1_15 fg_1_1 rfl (sh_60 _ _ _) rfl rfl ?_
          refine v_iconst (n := 203) xB_9 dX1_copy_202 ⟨by decide, by decide⟩ rfl ?_
          refine v_iadd (n := 204) xB_9 dX1_copy_203 (by first | omega | (simp only [sA_same, sA_s, ud_s, Int.reduceEq, if_true, if_false, ite_true, ite_false, ↓reduceIte, and_true, true_and, eq_self, Int.add_zero, Int.reduceAdd]; omega) | (simp (disch := omega) only [sA_same, sA_ne, ud_eq, ud_ne, Int.add_zero, Int.reduceAdd]; omega)) rfl ?_
          refine v_pf_i (n := 207) (kz := 1) xB_9 dX1_copy_204 xO_9 fl_1_15 fg_1_1 (Or.inl fn_1_1) (sh_60 _ _ _) (by decide) rfl rfl ?_
          (try simp (disch := omega) only [sA_same, sA_ne, sA_sA, sA_sr, sB_s, ud_eq, ud_ne, ud_ud, ud_sr, uB_s, Int.add_zero, Int.reduceAdd])
          refine v_iinc7 (n := 210) xB_9 dX1_copy_207 rfl (by first | omega | (simp only [sA_same, sA_s, ud_s, Int.reduceEq, if_true, if_false, ite_true, ite_false, ↓reduceIte, and_true, true_and, eq_self, Int.add_zero, Int.reduceAdd]; omega) | (simp (disch := omega) only [sA_same, sA_ne, ud_eq, ud_ne, Int.add_zero, Int.reduceAdd]; omega)) rfl ?_
          refine v_goto (t := 26) xB_9 dX1_copy_210 (by decide) rfl ?_
          have hd0 : dryF kd v n = true := by assumption
          rw [hd0, if_pos rfl] at hpg1 hpr1
          have hs1 : spF kd v CL n = false := by unfold spF; exact decide_eq_false (by omega)
          have hix : (if kd = 4 then m p 1 - 1 - (n : Int) else n) = (n : Int) := by first | rw [if_pos hk] | rw [if_neg (by omega)]
          rw [← hpr1, ← Int.natCast_succ]
          refine ih (n + 1) _ _ _ _ _ (by omega) (hgo hs1) hpg1.symm (okc_ud hf (lyF_ok _ hsh) _) (fun i hi => ?_)
          by_cases hx : (i : Int) = n
          · have hi2 : i = n := by omega
            subst hi2
            rw [ud_eq]
            unfold oF
            rw [hd0, if_pos rfl, hix]
          · rw [ud_ne (by omega)]
            exact ho2 i (by omega)
        · (try simp (disch := omega) only [sA_same, sA_ne, sA_sA, sA_sr, sB_s, ud_eq, ud_ne, ud_ud, ud_sr, uB_s, Int.add_zero, Int.reduceAdd] at g2)
          refine v_if_ne_n (n := 112) xB_9 dX1_copy_109 (by decide) rfl (by decide) ?_
          refine v_aload (n := 114) xB_9 dX1_copy_112 rfl rfl ?_
          refine v_gf_d (n := 117) (kz := 3) xB_9 dX1_copy_114 xO_9 fl_1_51 fg_2_3 (sh_dyn' ho hJ.1.2.1 _ _) rfl (st_dyn _ (by omega)) rfl ?_
          (try simp (disch := omega) only [sA_same, sA_ne, sA_sA, sA_sr, sB_s, ud_eq, ud_ne, ud_ud, ud_sr, uB_s, Int.add_zero, Int.reduceAdd])
          refine v_iload (n := 119) xB_9 dX1_copy_117 rfl rfl ?_
          refine v_iload (n := 121) xB_9 dX1_copy_119 rfl rfl ?_
          refine v_iload_n (n := 122) xB_9 dX1_copy_121 rfl rfl ?_
          refine v_iload (n := 124) xB_9 dX1_copy_122 rfl rfl ?_
          refine v_call_s (n := 127) xB_9 dX1_copy_124 xO_9 sp_1_54 (Or.inl rfl) iv_1_54 rfl rfl rfl rfl ?_
          refine k_holds (by omega) hJ.2.2.1.1 hJ.2.2.1.2.1 (by first | omega | (simp only [sA_same, sA_s, ud_s, Int.reduceEq, if_true, if_false, ite_true, ite_false, ↓reduceIte, and_true, true_and, eq_self, Int.add_zero, Int.reduceAdd]; omega) | (simp (disch := omega) only [sA_same, sA_ne, ud_eq, ud_ne, Int.add_zero, Int.reduceAdd]; omega)) hJ.2.2.1.2.2.2 (by simp (disch := omega) only [sA_ne]; exact hJ.2.2.1.2.2.1) (hg_stW hok 3 (by omega)) (fun gH => ?_) (fun gH => ?_)
          · (try simp (disch := omega) only [sA_same, sA_ne, sA_sA, sA_sr, sB_s, ud_eq, ud_ne, ud_ud, ud_sr, uB_s, Int.add_zero, Int.reduceAdd] at g3)
            refine v_istore9 (n := 129) xB_9 dX1_copy_127 rfl rfl ?_
            refine v_iload (n := 131) xB_9 dX1_copy_129 rfl rfl ?_
            refine v_bipush (n := 133) xB_9 dX1_copy_131 ⟨by decide, by decide⟩ rfl ?_
            refine v_ic_ne_n (n := 136) xB_9 dX1_copy_133 (by decide) rfl (by first | omega | (simp only [sA_same, sA_s, ud_s, Int.reduceEq, if_true, if_false, ite_true, ite_false, ↓reduceIte, and_true, true_and, eq_self, Int.add_zero, Int.reduceAdd]; omega) | (simp (disch := omega) only [sA_same, sA_ne, ud_eq, ud_ne, Int.add_zero, Int.reduceAdd]; omega)) ?_
            refine v_aload_n (n := 137) xB_9 dX1_copy_136 rfl rfl ?_
            refine v_gf_s (n := 140) (kz := 3) xB_9 dX1_copy_137 xO_9 fl_1_58 fg_9_3 (sh_T (by first | omega | (simp only [sA_same, sA_s, ud_s, Int.reduceEq, if_true, if_false, ite_true, ite_false, ↓reduceIte, and_true, true_and, eq_self, Int.add_zero, Int.reduceAdd]; omega) | (simp (disch := omega) only [sA_same, sA_ne, ud_eq, ud_ne, Int.add_zero, Int.reduceAdd]; omega)) _ _ _) rfl (st_TP (by first | omega | (simp only [sA_same, sA_s, ud_s, Int.reduceEq, if_true, if_false, ite_true, ite_false, ↓reduceIte, and_true, true_and, eq_self, Int.add_zero, Int.reduceAdd]; omega) | (simp (disch := omega) only [sA_same, sA_ne, ud_eq, ud_ne, Int.add_zero, Int.reduceAdd]; omega))) rfl ?_
            refine v_iload (n := 142) xB_9 dX1_copy_140 rfl rfl ?_
            refine v_iconst (n := 143) xB_9 dX1_copy_142 ⟨by decide, by decide⟩ rfl ?_
            refine v_irem (n := 144) xB_9 dX1_copy_143 (by first | omega | (simp only [sA_same, sA_s, ud_s, Int.reduceEq, if_true, if_false, ite_true, ite_false, ↓reduceIte, and_true, true_and, eq_self, Int.add_zero, Int.reduceAdd]; omega) | (simp (disch := omega) only [sA_same, sA_ne, ud_eq, ud_ne, Int.add_zero, Int.reduceAdd]; omega)) rfl ?_
            refine v_iaload (n := 145) (lz := 4) xB_9 dX1_copy_144 (sh_TP (by first | omega | (simp only [sA_same, sA_s, ud_s, Int.reduceEq, if_true, if_false, ite_true, ite_false, ↓reduceIte, and_true, true_and, eq_self, Int.add_zero, Int.reduceAdd]; omega) | (simp (disch := omega) only [sA_same, sA_ne, ud_eq, ud_ne, Int.add_zero, Int.reduceAdd]; omega)) _ _ _) rfl (by first | omega | (simp only [sA_same, sA_s, ud_s, Int.reduceEq, if_true, if_false, ite_true, ite_false, ↓reduceIte, and_true, true_and, eq_self, Int.add_zero, Int.reduceAdd]; omega) | (simp (disch := omega) only [sA_same, sA_ne, ud_eq, ud_ne, Int.add_zero, Int.reduceAdd]; omega)) rfl ?_
            refine v_goto (t := 149) xB_9 dX1_copy_145 (by decide) rfl ?_
            refine v_istore10 (n := 151) xB_9 dX1_copy_149 rfl rfl ?_
            refine v_iload (n := 153) xB_9 dX1_copy_151 rfl rfl ?_
            refine v_iload (n := 155) xB_9 dX1_copy_153 rfl rfl ?_
            refine v_iload (n := 157) xB_9 dX1_copy_155 rfl rfl ?_
            refine v_iadd (n := 158) xB_9 dX1_copy_157 (by first | omega | (simp only [sA_same, sA_s, ud_s, Int.reduceEq, if_true, if_false, ite_true, ite_false, ↓reduceIte, and_true, true_and, eq_self, Int.add_zero, Int.reduceAdd]; omega) | (simp (disch := omega) only [sA_same, sA_ne, ud_eq, ud_ne, Int.add_zero, Int.reduceAdd]; omega)) rfl ?_
            refine v_bipush (n := 160) xB_9 dX1_copy_158 ⟨by decide, by decide⟩ rfl ?_
            refine v_min (n := 163) xB_9 dX1_copy_160 xO_9 sp_1_61 rfl rfl ?_
            rw [← mn60_s]
            (try simp (disch := omega) only [sA_same, sA_ne, sA_sA, sA_sr, sB_s, ud_eq, ud_ne, ud_ud, ud_sr, uB_s, Int.add_zero, Int.reduceAdd])
            refine v_iload (n := 165) xB_9 dX1_copy_163 rfl rfl ?_
            refine v_call_s (n := 168) xB_9 dX1_copy_165 xO_9 sp_1_67 (Or.inl rfl) iv_1_67 rfl rfl rfl rfl ?_
            refine k_withPage (by omega) hsh (by have := (hr ((n : Int) % 4)); unfold mn60; split <;> omega) (by decide) ?_
            refine v_istore8 (n := 170) xB_9 dX1_copy_168 rfl rfl ?_
            refine v_aload_n (n := 171) xB_9 dX1_copy_170 rfl rfl ?_
            refine v_dup (n := 172) xB_9 dX1_copy_171 rfl rfl ?_
            refine v_gf_i (n := 175) (kz := 2) xB_9 dX1_copy_172 xO_9 fl_1_19 fg_1_2 rfl (sh_60 _ _ _) rfl rfl ?_
            refine v_iconst (n := 176) xB_9 dX1_copy_175 ⟨by decide, by decide⟩ rfl ?_
            refine v_iadd (n := 177) xB_9 dX1_copy_176 (by first | omega | (simp only [sA_same, sA_s, ud_s, Int.reduceEq, if_true, if_false, ite_true, ite_false, ↓reduceIte, and_true, true_and, eq_self, Int.add_zero, Int.reduceAdd]; omega) | (simp (disch := omega) only [sA_same, sA_ne, ud_eq, ud_ne, Int.add_zero, Int.reduceAdd]; omega)) rfl ?_
            refine v_pf_i (n := 180) (kz := 2) xB_9 dX1_copy_177 xO_9 fl_1_19 fg_1_2 (Or.inl fn_1_2) (sh_60 _ _ _) (by decide) rfl rfl ?_
            (try simp (disch := omega) only [sA_same, sA_ne, sA_sA, sA_sr, sB_s, ud_eq, ud_ne, ud_ud, ud_sr, uB_s, Int.add_zero, Int.reduceAdd])
            refine v_iinc5 (n := 183) xB_9 dX1_copy_180 rfl (by first | omega | (simp only [sA_same, sA_s, ud_s, Int.reduceEq, if_true, if_false, ite_true, ite_false, ↓reduceIte, and_true, true_and, eq_self, Int.add_zero, Int.reduceAdd]; omega) | (simp (disch := omega) only [sA_same, sA_ne, ud_eq, ud_ne, Int.add_zero, Int.reduceAdd]; omega)) rfl ?_
            refine v_aload_n (n := 184) xB_9 dX1_copy_183 rfl rfl ?_
            refine v_gf_s (n := 187) (kz := 0) xB_9 dX1_copy_184 xO_9 fl_1_9 fg_1_0 (sh_60 _ _ _) rfl st_60_0 rfl ?_
            refine v_iload (n := 189) xB_9 dX1_copy_187 rfl rfl ?_
            refine v_iload (n := 191) xB_9 dX1_copy_189 rfl rfl ?_
            refine v_iload (n := 193) xB_9 dX1_copy_191 rfl rfl ?_
            refine v_call_s (n := 196) xB_9 dX1_copy_193 xO_9 sp_1_71 (Or.inl rfl) iv_1_71 rfl rfl rfl rfl ?_
            refine k_laidOut (by omega) (by first | exact hsh | exact wpF_ok _ hsh (by have := (hr ((n : Int) % 4)); unfold mn60; split <;> omega) (by have := (hr ((n : Int) % 4)); unfold mn60; split <;> omega)) ?_
            refine v_iastore (n := 197) (lz := 12) xB_9 dX1_copy_196 (sh_61 _ _ _) (by decide) rfl (by first | omega | (simp only [sA_same, sA_s, ud_s, Int.reduceEq, if_true, if_false, ite_true, ite_false, ↓reduceIte, and_true, true_and, eq_self, Int.add_zero, Int.reduceAdd]; omega) | (simp (disch := omega) only [sA_same, sA_ne, ud_eq, ud_ne, Int.add_zero, Int.reduceAdd]; omega)) rfl ?_
            (try simp (disch := omega) only [sA_same, sA_ne, sA_sA, sA_sr, sB_s, ud_eq, ud_ne, ud_ud, ud_sr, uB_s, Int.add_zero, Int.reduceAdd])
            refine v_aload_n (n := 198) xB_9 dX1_copy_197 rfl rfl ?_
            refine v_dup (n := 199) xB_9 dX1_copy_198 rfl rfl ?_
            refine v_gf_i (n := 202) (kz := 1) xB_9 dX1_copy_199 xO_9 fl_1_15 fg_1_1 rfl (sh_60 _ _ _) rfl rfl ?_
            refine v_iconst (n := 203) xB_9 dX1_copy_202 ⟨by decide, by decide⟩ rfl ?_
            refine v_iadd (n := 204) xB_9 dX1_copy_203 (by first | omega | (simp only [sA_same, sA_s, ud_s, Int.reduceEq, if_true, if_false, ite_true, ite_false, ↓reduceIte, and_true, true_and, eq_self, Int.add_zero, Int.reduceAdd]; omega) | (simp (disch := omega) only [sA_same, sA_ne, ud_eq, ud_ne, Int.add_zero, Int.reduceAdd]; omega)) rfl ?_
            refine v_pf_i (n := 207) (kz := 1) xB_9 dX1_copy_204 xO_9 fl_1_15 fg_1_1 (Or.inl fn_1_1) (sh_60 _ _ _) (by decide) rfl rfl ?_
            (try simp (disch := omega) only [sA_same, sA_ne, sA_sA, sA_sr, sB_s, ud_eq, ud_ne, ud_ud, ud_sr, uB_s, Int.add_zero, Int.reduceAdd])
            refine v_iinc7 (n := 210) xB_9 dX1_copy_207 rfl (by first | omega | (simp only [sA_same, sA_s, ud_s, Int.reduceEq, if_true, if_false, ite_true, ite_false, ↓reduceIte, and_true, true_and, eq_self, Int.add_zero, Int.reduceAdd]; omega) | (simp (disch := omega) only [sA_same, sA_ne, ud_eq, ud_ne, Int.add_zero, Int.reduceAdd]; omega)) rfl ?_
            refine v_goto (t := 26) xB_9 dX1_copy_210 (by decide) rfl ?_
            have hd0 : dryF kd v n = false := by assumption
            rw [hd0, if_neg (by decide)] at hpg1 hpr1
            rw [vS_stW hok 3 (by omega)] at gH
            have hs1 : spF kd v CL n = false := by unfold spF; exact decide_eq_false (by omega)
            have hix : (if kd = 4 then m p 1 - 1 - (n : Int) else n) = (n : Int) := by first | rw [if_pos hk] | rw [if_neg (by omega)]
            rw [← hpr1, ← Int.natCast_succ]
            refine ih (n + 1) _ _ _ _ _ (by omega) (hgo hs1) hpg1.symm (okc_ud hf (lyF_ok _ (wpF_ok _ hsh (by have := (hr ((n : Int) % 4)); unfold mn60; split <;> omega) (by have := (hr ((n : Int) % 4)); unfold mn60; split <;> omega))) _) (fun i hi => ?_)
            by_cases hx : (i : Int) = n
            · have hi2 : i = n := by omega
              subst hi2
              rw [ud_eq]
              unfold oF
              rw [hd0, if_neg (by decide), hix]
              rw [gH]
              rw [if_pos hk]
              first | rfl | (simp only [Int.add_zero, decide_true, decide_false, Int.reduceEq]; done) | (simp only [Int.add_zero, decide_true, decide_false, Int.reduceEq]; rfl)
            · rw [ud_ne (by omega)]
              exact ho2 i (by omega)
          · (try simp (disch := omega) only [sA_same, sA_ne, sA_sA, sA_sr, sB_s, ud_eq, ud_ne, ud_ud, ud_sr, uB_s, Int.add_zero, Int.reduceAdd] at g4)
            refine v_istore9 (n := 129) xB_9 dX1_copy_127 rfl rfl ?_
            refine v_iload (n := 131) xB_9 dX1_copy_129 rfl rfl ?_
            refine v_bipush (n := 133) xB_9 dX1_copy_131 ⟨by decide, by decide⟩ rfl ?_
            refine v_ic_ne_n (n := 136) xB_9 dX1_copy_133 (by decide) rfl (by first | omega | (simp only [sA_same, sA_s, ud_s, Int.reduceEq, if_true, if_false, ite_true, ite_false, ↓reduceIte, and_true, true_and, eq_self, Int.add_zero, Int.reduceAdd]; omega) | (simp (disch := omega) only [sA_same, sA_ne, ud_eq, ud_ne, Int.add_zero, Int.reduceAdd]; omega)) ?_
            refine v_aload_n (n := 137) xB_9 dX1_copy_136 rfl rfl ?_
            refine v_gf_s (n := 140) (kz := 3) xB_9 dX1_copy_137 xO_9 fl_1_58 fg_9_3 (sh_T (by first | omega | (simp only [sA_same, sA_s, ud_s, Int.reduceEq, if_true, if_false, ite_true, ite_false, ↓reduceIte, and_true, true_and, eq_self, Int.add_zero, Int.reduceAdd]; omega) | (simp (disch := omega) only [sA_same, sA_ne, ud_eq, ud_ne, Int.add_zero, Int.reduceAdd]; omega)) _ _ _) rfl (st_TP (by first | omega | (simp only [sA_same, sA_s, ud_s, Int.reduceEq, if_true, if_false, ite_true, ite_false, ↓reduceIte, and_true, true_and, eq_self, Int.add_zero, Int.reduceAdd]; omega) | (simp (disch := omega) only [sA_same, sA_ne, ud_eq, ud_ne, Int.add_zero, Int.reduceAdd]; omega))) rfl ?_
            refine v_iload (n := 142) xB_9 dX1_copy_140 rfl rfl ?_
            refine v_iconst (n := 143) xB_9 dX1_copy_142 ⟨by decide, by decide⟩ rfl ?_
            refine v_irem (n := 144) xB_9 dX1_copy_143 (by first | omega | (simp only [sA_same, sA_s, ud_s, Int.reduceEq, if_true, if_false, ite_true, ite_false, ↓reduceIte, and_true, true_and, eq_self, Int.add_zero, Int.reduceAdd]; omega) | (simp (disch := omega) only [sA_same, sA_ne, ud_eq, ud_ne, Int.add_zero, Int.reduceAdd]; omega)) rfl ?_
            refine v_iaload (n := 145) (lz := 4) xB_9 dX1_copy_144 (sh_TP (by first | omega | (simp only [sA_same, sA_s, ud_s, Int.reduceEq, if_true, if_false, ite_true, ite_false, ↓reduceIte, and_true, true_and, eq_self, Int.add_zero, Int.reduceAdd]; omega) | (simp (disch := omega) only [sA_same, sA_ne, ud_eq, ud_ne, Int.add_zero, Int.reduceAdd]; omega)) _ _ _) rfl (by first | omega | (simp only [sA_same, sA_s, ud_s, Int.reduceEq, if_true, if_false, ite_true, ite_false, ↓reduceIte, and_true, true_and, eq_self, Int.add_zero, Int.reduceAdd]; omega) | (simp (disch := omega) only [sA_same, sA_ne, ud_eq, ud_ne, Int.add_zero, Int.reduceAdd]; omega)) rfl ?_
            refine v_goto (t := 149) xB_9 dX1_copy_145 (by decide) rfl ?_
            refine v_istore10 (n := 151) xB_9 dX1_copy_149 rfl rfl ?_
            refine v_iload (n := 153) xB_9 dX1_copy_151 rfl rfl ?_
            refine v_iload (n := 155) xB_9 dX1_copy_153 rfl rfl ?_
            refine v_iload (n := 157) xB_9 dX1_copy_155 rfl rfl ?_
            refine v_iadd (n := 158) xB_9 dX1_copy_157 (by first | omega | (simp only [sA_same, sA_s, ud_s, Int.reduceEq, if_true, if_false, ite_true, ite_false, ↓reduceIte, and_true, true_and, eq_self, Int.add_zero, Int.reduceAdd]; omega) | (simp (disch := omega) only [sA_same, sA_ne, ud_eq, ud_ne, Int.add_zero, Int.reduceAdd]; omega)) rfl ?_
            refine v_bipush (n := 160) xB_9 dX1_copy_158 ⟨by decide, by decide⟩ rfl ?_
            refine v_min (n := 163) xB_9 dX1_copy_160 xO_9 sp_1_61 rfl rfl ?_
            rw [← mn60_s]
            (try simp (disch := omega) only [sA_same, sA_ne, sA_sA, sA_sr, sB_s, ud_eq, ud_ne, ud_ud, ud_sr, uB_s, Int.add_zero, Int.reduceAdd])
            refine v_iload (n := 165) xB_9 dX1_copy_163 rfl rfl ?_
            refine v_call_s (n := 168) xB_9 dX1_copy_165 xO_9 sp_1_67 (Or.inl rfl) iv_1_67 rfl rfl rfl rfl ?_
            refine k_withPage (by omega) hsh (by have := (hr ((n : Int) % 4)); unfold mn60; split <;> omega) (by decide) ?_
            refine v_istore8 (n := 170) xB_9 dX1_copy_168 rfl rfl ?_
            refine v_aload_n (n := 171) xB_9 dX1_copy_170 rfl rfl ?_
            refine v_dup (n := 172) xB_9 dX1_copy_171 rfl rfl ?_
            refine v_gf_i (n := 175) (kz := 2) xB_9 dX1_copy_172 xO_9 fl_1_19 fg_1_2 rfl (sh_60 _ _ _) rfl rfl ?_
            refine v_iconst (n := 176) xB_9 dX1_copy_175 ⟨by decide, by decide⟩ rfl ?_
            refine v_iadd (n := 177) xB_9 dX1_copy_176 (by first | omega | (simp only [sA_same, sA_s, ud_s, Int.reduceEq, if_true, if_false, ite_true, ite_false, ↓reduceIte, and_true, true_and, eq_self, Int.add_zero, Int.reduceAdd]; omega) | (simp (disch := omega) only [sA_same, sA_ne, ud_eq, ud_ne, Int.add_zero, Int.reduceAdd]; omega)) rfl ?_
            refine v_pf_i (n := 180) (kz := 2) xB_9 dX1_copy_177 xO_9 fl_1_19 fg_1_2 (Or.inl fn_1_2) (sh_60 _ _ _) (by decide) rfl rfl ?_
            (try simp (disch := omega) only [sA_same, sA_ne, sA_sA, sA_sr, sB_s, ud_eq, ud_ne, ud_ud, ud_sr, uB_s, Int.add_zero, Int.reduceAdd])
            refine v_iinc5 (n := 183) xB_9 dX1_copy_180 rfl (by first | omega | (simp only [sA_same, sA_s, ud_s, Int.reduceEq, if_true, if_false, ite_true, ite_false, ↓reduceIte, and_true, true_and, eq_self, Int.add_zero, Int.reduceAdd]; omega) | (simp (disch := omega) only [sA_same, sA_ne, ud_eq, ud_ne, Int.add_zero, Int.reduceAdd]; omega)) rfl ?_
            refine v_aload_n (n := 184) xB_9 dX1_copy_183 rfl rfl ?_
            refine v_gf_s (n := 187) (kz := 0) xB_9 dX1_copy_184 xO_9 fl_1_9 fg_1_0 (sh_60 _ _ _) rfl st_60_0 rfl ?_
            refine v_iload (n := 189) xB_9 dX1_copy_187 rfl rfl ?_
            refine v_iload (n := 191) xB_9 dX1_copy_189 rfl rfl ?_
            refine v_iload (n := 193) xB_9 dX1_copy_191 rfl rfl ?_
            refine v_call_s (n := 196) xB_9 dX1_copy_193 xO_9 sp_1_71 (Or.inl rfl) iv_1_71 rfl rfl rfl rfl ?_
            refine k_laidOut (by omega) (by first | exact hsh | exact wpF_ok _ hsh (by have := (hr ((n : Int) % 4)); unfold mn60; split <;> omega) (by have := (hr ((n : Int) % 4)); unfold mn60; split <;> omega)) ?_
            refine v_iastore (n := 197) (lz := 12) xB_9 dX1_copy_196 (sh_61 _ _ _) (by decide) rfl (by first | omega | (simp only [sA_same, sA_s, ud_s, Int.reduceEq, if_true, if_false, ite_true, ite_false, ↓reduceIte, and_true, true_and, eq_self, Int.add_zero, Int.reduceAdd]; omega) | (simp (disch := omega) only [sA_same, sA_ne, ud_eq, ud_ne, Int.add_zero, Int.reduceAdd]; omega)) rfl ?_
            (try simp (disch := omega) only [sA_same, sA_ne, sA_sA, sA_sr, sB_s, ud_eq, ud_ne, ud_ud, ud_sr, uB_s, Int.add_zero, Int.reduceAdd])
            refine v_aload_n (n := 198) xB_9 dX1_copy_197 rfl rfl ?_
            refine v_dup (n := 199) xB_9 dX1_copy_198 rfl rfl ?_
            refine v_gf_i (n := 202) (kz := 1) xB_9 dX1_copy_199 xO_9 fl_1_15 fg_1_1 rfl (sh_60 _ _ _) rfl rfl ?_
            refine v_iconst (n := 203) xB_9 dX1_copy_202 ⟨by decide, by decide⟩ rfl ?_
            refine v_iadd (n := 204) xB_9 dX1_copy_203 (by first | omega | (simp only [sA_same, sA_s, ud_s, Int.reduceEq, if_true, if_false, ite_true, ite_false, ↓reduceIte, and_true, true_and, eq_self, Int.add_zero, Int.reduceAdd]; omega) | (simp (disch := omega) only [sA_same, sA_ne, ud_eq, ud_ne, Int.add_zero, Int.reduceAdd]; omega)) rfl ?_
            refine v_pf_i (n := 207) (kz := 1) xB_9 dX1_copy_204 xO_9 fl_1_15 fg_1_1 (Or.inl fn_1_1) (sh_60 _ _ _) (by decide) rfl rfl ?_
            (try simp (disch := omega) only [sA_same, sA_ne, sA_sA, sA_sr, sB_s, ud_eq, ud_ne, ud_ud, ud_sr, uB_s, Int.add_zero, Int.reduceAdd])
            refine v_iinc7 (n := 210) xB_9 dX1_copy_207 rfl (by first | omega | (simp only [sA_same, sA_s, ud_s, Int.reduceEq, if_true, if_false, ite_true, ite_false, ↓reduceIte, and_true, true_and, eq_self, Int.add_zero, Int.reduceAdd]; omega) | (simp (disch := omega) only [sA_same, sA_ne, ud_eq, ud_ne, Int.add_zero, Int.reduceAdd]; omega)) rfl ?_
            refine v_goto (t := 26) xB_9 dX1_copy_210 (by decide) rfl ?_
            have hd0 : dryF kd v n = false := by assumption
            rw [hd0, if_neg (by decide)] at hpg1 hpr1
            rw [vS_stW hok 3 (by omega)] at gH
            have hs1 : spF kd v CL n = false := by unfold spF; exact decide_eq_false (by omega)
            have hix : (if kd = 4 then m p 1 - 1 - (n : Int) else n) = (n : Int) := by first | rw [if_pos hk] | rw [if_neg (by omega)]
            rw [← hpr1, ← Int.natCast_succ]
            refine ih (n + 1) _ _ _ _ _ (by omega) (hgo hs1) hpg1.symm (okc_ud hf (lyF_ok _ (wpF_ok _ hsh (by have := (hr ((n : Int) % 4)); unfold mn60; split <;> omega) (by have := (hr ((n : Int) % 4)); unfold mn60; split <;> omega))) _) (fun i hi => ?_)
            by_cases hx : (i : Int) = n
            · have hi2 : i = n := by omega
              subst hi2
              rw [ud_eq]
              unfold oF
              rw [hd0, if_neg (by decide), hix]
              rw [gH]
              rw [if_pos hk]
              first | rfl | (simp only [Int.add_zero, decide_true, decide_false, Int.reduceEq]; done) | (simp only [Int.add_zero, decide_true, decide_false, Int.reduceEq]; rfl)
            · rw [ud_ne (by omega)]
              exact ho2 i (by omega)
      · have hsh : okS (m (p + 1) (n : Int)) := hc _
        refine v_iload (n := 28) xB_9 dX1_copy_26 rfl rfl ?_
        refine v_aload_n (n := 29) xB_9 dX1_copy_28 rfl rfl ?_
        refine v_gf_i (n := 32) (kz := 1) xB_9 dX1_copy_29 xO_9 fl_1_32 fg_4_1 rfl (sh_P hp _ _ _) rfl rfl ?_
        refine v_ic_ge_n (n := 35) xB_9 dX1_copy_32 (by decide) rfl (by first | omega | (simp only [sA_same, sA_s, ud_s, Int.reduceEq, if_true, if_false, ite_true, ite_false, ↓reduceIte, and_true, true_and, eq_self, Int.add_zero, Int.reduceAdd]; omega) | (simp (disch := omega) only [sA_same, sA_ne, ud_eq, ud_ne, Int.add_zero, Int.reduceAdd]; omega)) ?_
        refine v_aload (n := 37) xB_9 dX1_copy_35 rfl rfl ?_
        refine v_iload (n := 39) xB_9 dX1_copy_37 rfl rfl ?_
        refine v_iload (n := 41) xB_9 dX1_copy_39 rfl rfl ?_
        refine v_iload_n (n := 42) xB_9 dX1_copy_41 rfl rfl ?_
        refine v_iload (n := 44) xB_9 dX1_copy_42 rfl rfl ?_
        refine v_call_v (n := 47) xB_9 dX1_copy_44 xO_9 iv_1_37 rfl (sh_dyn' ho hJ.1.2.1 _ _) rfl rfl rfl ?_
        refine k_pageFrom (by omega) (JC_fr (m := m) (fun a ha => by simp (disch := omega) only [sA_ne]) _ _ _ hJ) (by first | omega | (simp only [sA_same, sA_s, ud_s, Int.reduceEq, if_true, if_false, ite_true, ite_false, ↓reduceIte, and_true, true_and, eq_self, Int.add_zero, Int.reduceAdd]; omega) | (simp (disch := omega) only [sA_same, sA_ne, ud_eq, ud_ne, Int.add_zero, Int.reduceAdd]; omega)) ?_
        rw [hpf]
        refine v_istore5 (n := 49) xB_9 dX1_copy_47 rfl rfl ?_
        refine v_iload (n := 51) xB_9 dX1_copy_49 rfl rfl ?_
        refine v_aload (n := 53) xB_9 dX1_copy_51 rfl rfl ?_
        refine v_gf_i (n := 56) (kz := 1) xB_9 dX1_copy_53 xO_9 fl_1_41 fg_2_1 rfl (sh_dyn' ho hJ.1.2.1 _ _) rfl rfl ?_
        refine v_ic_gt_n (n := 59) xB_9 dX1_copy_56 (by decide) rfl (by first | omega | (simp only [sA_same, sA_s, ud_s, Int.reduceEq, if_true, if_false, ite_true, ite_false, ↓reduceIte, and_true, true_and, eq_self, Int.add_zero, Int.reduceAdd]; omega) | (simp (disch := omega) only [sA_same, sA_ne, ud_eq, ud_ne, Int.add_zero, Int.reduceAdd]; omega)) ?_
        refine v_iload (n := 61) xB_9 dX1_copy_59 rfl rfl ?_
        refine v_iconst (n := 62) xB_9 dX1_copy_61 ⟨by decide, by decide⟩ rfl ?_
        refine v_ic_ne_y (t := 74) xB_9 dX1_copy_62 (by decide) rfl (by first | omega | (simp only [sA_same, sA_s, ud_s, Int.reduceEq, if_true, if_false, ite_true, ite_false, ↓reduceIte, and_true, true_and, eq_self, Int.add_zero, Int.reduceAdd]; omega) | (simp (disch := omega) only [sA_same, sA_ne, ud_eq, ud_ne, Int.add_zero, Int.reduceAdd]; omega)) ?_
        refine v_aload_n (n := 75) xB_9 dX1_copy_74 rfl rfl ?_
        refine v_gf_s (n := 78) (kz := 0) xB_9 dX1_copy_75 xO_9 fl_1_44 fg_4_0 (sh_P hp _ _ _) rfl (st_P hp) rfl ?_
        refine v_iload (n := 80) xB_9 dX1_copy_78 rfl rfl ?_
        refine v_iconst (n := 81) xB_9 dX1_copy_80 ⟨by decide, by decide⟩ rfl ?_
        refine v_ic_ne_y (t := 96) xB_9 dX1_copy_81 (by decide) rfl (by first | omega | (simp only [sA_same, sA_s, ud_s, Int.reduceEq, if_true, if_false, ite_true, ite_false, ↓reduceIte, and_true, true_and, eq_self, Int.add_zero, Int.reduceAdd]; omega) | (simp (disch := omega) only [sA_same, sA_ne, ud_eq, ud_ne, Int.add_zero, Int.reduceAdd]; omega)) ?_
        refine v_iload (n := 98) xB_9 dX1_copy_96 rfl rfl ?_
        refine v_iaload (n := 99) (lz := 12) xB_9 dX1_copy_98 (sh_PA hp _ _ _) rfl (by first | omega | (simp only [sA_same, sA_s, ud_s, Int.reduceEq, if_true, if_false, ite_true, ite_false, ↓reduceIte, and_true, true_and, eq_self, Int.add_zero, Int.reduceAdd]; omega) | (simp (disch := omega) only [sA_same, sA_ne, ud_eq, ud_ne, Int.add_zero, Int.reduceAdd]; omega)) rfl ?_
        refine v_istore8 (n := 101) xB_9 dX1_copy_99 rfl rfl ?_
        (try simp (disch := omega) only [sA_same, sA_ne, sA_sA, sA_sr, sB_s, ud_eq, ud_ne, ud_ud, ud_sr, uB_s, Int.add_zero, Int.reduceAdd])
        refine v_iload (n := 103) xB_9 dX1_copy_101 rfl rfl ?_
        refine v_iload_n (n := 104) xB_9 dX1_copy_103 rfl rfl ?_
        refine v_iload (n := 106) xB_9 dX1_copy_104 rfl rfl ?_
        refine v_call_s (n := 109) xB_9 dX1_copy_106 xO_9 sp_1_47 (Or.inl rfl) iv_1_47 rfl rfl rfl rfl ?_
        refine k_isDry (by omega) (by first | omega | (simp only [sA_same, sA_s, ud_s, Int.reduceEq, if_true, if_false, ite_true, ite_false, ↓reduceIte, and_true, true_and, eq_self, Int.add_zero, Int.reduceAdd]; omega) | (simp (disch := omega) only [sA_same, sA_ne, ud_eq, ud_ne, Int.add_zero, Int.reduceAdd]; omega)) (by first | omega | (simp only [sA_same, sA_s, ud_s, Int.reduceEq, if_true, if_false, ite_true, ite_false, ↓reduceIte, and_true, true_and, eq_self, Int.add_zero, Int.reduceAdd]; omega) | (simp (disch := omega) only [sA_same, sA_ne, ud_eq, ud_ne, Int.add_zero, Int.reduceAdd]; omega)) (fun g1 => ?_) (fun g2 => ?_)
        · (try simp (disch := omega) only [sA_same, sA_ne, sA_sA, sA_sr, sB_s, ud_eq, ud_ne, ud_ud, ud_sr, uB_s, Int.add_zero, Int.reduceAdd] at g1)
          refine v_if_ne_y (t := 183) xB_9 dX1_copy_109 (by decide) rfl (by decide) ?_
          refine v_aload_n (n := 184) xB_9 dX1_copy_183 rfl rfl ?_
          refine v_gf_s (n := 187) (kz := 0) xB_9 dX1_copy_184 xO_9 fl_1_9 fg_1_0 (sh_60 _ _ _) rfl st_60_0 rfl ?_
          refine v_iload (n := 189) xB_9 dX1_copy_187 rfl rfl ?_
          refine v_iload (n := 191) xB_9 dX1_copy_189 rfl rfl ?_
          refine v_iload (n := 193) xB_9 dX1_copy_191 rfl rfl ?_
          refine v_call_s (n := 196) xB_9 dX1_copy_193 xO_9 sp_1_71 (Or.inl rfl) iv_1_71 rfl rfl rfl rfl ?_
          refine k_laidOut (by omega) (by first | exact hsh | exact wpF_ok _ hsh (by have := (hr ((n : Int) % 4)); unfold mn60; split <;> omega) (by have := (hr ((n : Int) % 4)); unfold mn60; split <;> omega)) ?_
          refine v_iastore (n := 197) (lz := 12) xB_9 dX1_copy_196 (sh_61 _ _ _) (by decide) rfl (by first | omega | (simp only [sA_same, sA_s, ud_s, Int.reduceEq, if_true, if_false, ite_true, ite_false, ↓reduceIte, and_true, true_and, eq_self, Int.add_zero, Int.reduceAdd]; omega) | (simp (disch := omega) only [sA_same, sA_ne, ud_eq, ud_ne, Int.add_zero, Int.reduceAdd]; omega)) rfl ?_
          (try simp (disch := omega) only [sA_same, sA_ne, sA_sA, sA_sr, sB_s, ud_eq, ud_ne, ud_ud, ud_sr, uB_s, Int.add_zero, Int.reduceAdd])
          refine v_aload_n (n := 198) xB_9 dX1_copy_197 rfl rfl ?_
          refine v_dup (n := 199) xB_9 dX1_copy_198 rfl rfl ?_
          refine v_gf_i (n := 202) (kz := 1) xB_9 dX1_copy_199 xO_9 fl_1_15 fg_1_1 rfl (sh_60 _ _ _) rfl rfl ?_
          refine v_iconst (n := 203) xB_9 dX1_copy_202 ⟨by decide, by decide⟩ rfl ?_
          refine v_iadd (n := 204) xB_9 dX1_copy_203 (by first | omega | (simp only [sA_same, sA_s, ud_s, Int.reduceEq, if_true, if_false, ite_true, ite_false, ↓reduceIte, and_true, true_and, eq_self, Int.add_zero, Int.reduceAdd]; omega) | (simp (disch := omega) only [sA_same, sA_ne, ud_eq, ud_ne, Int.add_zero, Int.reduceAdd]; omega)) rfl ?_
          refine v_pf_i (n := 207) (kz := 1) xB_9 dX1_copy_204 xO_9 fl_1_15 fg_1_1 (Or.inl fn_1_1) (sh_60 _ _ _) (by decide) rfl rfl ?_
          (try simp (disch := omega) only [sA_same, sA_ne, sA_sA, sA_sr, sB_s, ud_eq, ud_ne, ud_ud, ud_sr, uB_s, Int.add_zero, Int.reduceAdd])
          refine v_iinc7 (n := 210) xB_9 dX1_copy_207 rfl (by first | omega | (simp only [sA_same, sA_s, ud_s, Int.reduceEq, if_true, if_false, ite_true, ite_false, ↓reduceIte, and_true, true_and, eq_self, Int.add_zero, Int.reduceAdd]; omega) | (simp (disch := omega) only [sA_same, sA_ne, ud_eq, ud_ne, Int.add_zero, Int.reduceAdd]; omega)) rfl ?_
          refine v_goto (t := 26) xB_9 dX1_copy_210 (by decide) rfl ?_
          have hd0 : dryF kd v n = true := by assumption
          rw [hd0, if_pos rfl] at hpg1 hpr1
          have hs1 : spF kd v CL n = false := by unfold spF; exact decide_eq_false (by omega)
          have hix : (if kd = 4 then m p 1 - 1 - (n : Int) else n) = (n : Int) := by first | rw [if_pos hk] | rw [if_neg (by omega)]
          rw [← hpr1, ← Int.natCast_succ]
          refine ih (n + 1) _ _ _ _ _ (by omega) (hgo hs1) hpg1.symm (okc_ud hf (lyF_ok _ hsh) _) (fun i hi => ?_)
          by_cases hx : (i : Int) = n
          · have hi2 : i = n := by omega
            subst hi2
            rw [ud_eq]
            unfold oF
            rw [hd0, if_pos rfl, hix]
          · rw [ud_ne (by omega)]
            exact ho2 i (by omega)
        · (try simp (disch := omega) only [sA_same, sA_ne, sA_sA, sA_sr, sB_s, ud_eq, ud_ne, ud_ud, ud_sr, uB_s, Int.add_zero, Int.reduceAdd] at g2)
          refine v_if_ne_n (n := 112) xB_9 dX1_copy_109 (by decide) rfl (by decide) ?_
          refine v_aload (n := 114) xB_9 dX1_copy_112 rfl rfl ?_
          refine v_gf_d (n := 117) (kz := 3) xB_9 dX1_copy_114 xO_9 fl_1_51 fg_2_3 (sh_dyn' ho hJ.1.2.1 _ _) rfl (st_dyn _ (by omega)) rfl ?_
          (try simp (disch := omega) only [sA_same, sA_ne, sA_sA, sA_sr, sB_s, ud_eq, ud_ne, ud_ud, ud_sr, uB_s, Int.add_zero, Int.reduceAdd])
          refine v_iload (n := 119) xB_9 dX1_copy_117 rfl rfl ?_
          refine v_iload (n := 121) xB_9 dX1_copy_119 rfl rfl ?_
          refine v_iload_n (n := 122) xB_9 dX1_copy_121 rfl rfl ?_
          refine v_iload (n := 124) xB_9 dX1_copy_122 rfl rfl ?_
          refine v_call_s (n := 127) xB_9 dX1_copy_124 xO_9 sp_1_54 (Or.inl rfl) iv_1_54 rfl rfl rfl rfl ?_
          refine k_holds (by omega) hJ.2.2.1.1 hJ.2.2.1.2.1 (by first | omega | (simp only [sA_same, sA_s, ud_s, Int.reduceEq, if_true, if_false, ite_true, ite_false, ↓reduceIte, and_true, true_and, eq_self, Int.add_zero, Int.reduceAdd]; omega) | (simp (disch := omega) only [sA_same, sA_ne, ud_eq, ud_ne, Int.add_zero, Int.reduceAdd]; omega)) hJ.2.2.1.2.2.2 (by simp (disch := omega) only [sA_ne]; exact hJ.2.2.1.2.2.1) (hg_stW hok 3 (by omega)) (fun gH => ?_) (fun gH => ?_)
          · (try simp (disch := omega) only [sA_same, sA_ne, sA_sA, sA_sr, sB_s, ud_eq, ud_ne, ud_ud, ud_sr, uB_s, Int.add_zero, Int.reduceAdd] at g3)
            refine v_istore9 (n := 129) xB_9 dX1_copy_127 rfl rfl ?_
            refine v_iload (n := 131) xB_9 dX1_copy_129 rfl rfl ?_
            refine v_bipush (n := 133) xB_9 dX1_copy_131 ⟨by decide, by decide⟩ rfl ?_
            refine v_ic_ne_y (t := 148) xB_9 dX1_copy_133 (by decide) rfl (by first | omega | (simp only [sA_same, sA_s, ud_s, Int.reduceEq, if_true, if_false, ite_true, ite_false, ↓reduceIte, and_true, true_and, eq_self, Int.add_zero, Int.reduceAdd]; omega) | (simp (disch := omega) only [sA_same, sA_ne, ud_eq, ud_ne, Int.add_zero, Int.reduceAdd]; omega)) ?_
            refine v_iconst (n := 149) xB_9 dX1_copy_148 ⟨by decide, by decide⟩ rfl ?_
            refine v_istore10 (n := 151) xB_9 dX1_copy_149 rfl rfl ?_
            refine v_iload (n := 153) xB_9 dX1_copy_151 rfl rfl ?_
            refine v_iload (n := 155) xB_9 dX1_copy_153 rfl rfl ?_
            refine v_iload (n := 157) xB_9 dX1_copy_155 rfl rfl ?_
            refine v_iadd (n := 158) xB_9 dX1_copy_157 (by first | omega | (simp only [sA_same, sA_s, ud_s, Int.reduceEq, if_true, if_false, ite_true, ite_false, ↓reduceIte, and_true, true_and, eq_self, Int.add_zero, Int.reduceAdd]; omega) | (simp (disch := omega) only [sA_same, sA_ne, ud_eq, ud_ne, Int.add_zero, Int.reduceAdd]; omega)) rfl ?_
            refine v_bipush (n := 160) xB_9 dX1_copy_158 ⟨by decide, by decide⟩ rfl ?_
            refine v_min (n := 163) xB_9 dX1_copy_160 xO_9 sp_1_61 rfl rfl ?_
            rw [← mn60_s]
            (try simp (disch := omega) only [sA_same, sA_ne, sA_sA, sA_sr, sB_s, ud_eq, ud_ne, ud_ud, ud_sr, uB_s, Int.add_zero, Int.reduceAdd])
            refine v_iload (n := 165) xB_9 dX1_copy_163 rfl rfl ?_
            refine v_call_s (n := 168) xB_9 dX1_copy_165 xO_9 sp_1_67 (Or.inl rfl) iv_1_67 rfl rfl rfl rfl ?_
            refine k_withPage (by omega) hsh (by have := (hr ((n : Int) % 4)); unfold mn60; split <;> omega) (by decide) ?_
            refine v_istore8 (n := 170) xB_9 dX1_copy_168 rfl rfl ?_
            refine v_aload_n (n := 171) xB_9 dX1_copy_170 rfl rfl ?_
            refine v_dup (n := 172) xB_9 dX1_copy_171 rfl rfl ?_
            refine v_gf_i (n := 175) (kz := 2) xB_9 dX1_copy_172 xO_9 fl_1_19 fg_1_2 rfl (sh_60 _ _ _) rfl rfl ?_
            refine v_iconst (n := 176) xB_9 dX1_copy_175 ⟨by decide, by decide⟩ rfl ?_
            refine v_iadd (n := 177) xB_9 dX1_copy_176 (by first | omega | (simp only [sA_same, sA_s, ud_s, Int.reduceEq, if_true, if_false, ite_true, ite_false, ↓reduceIte, and_true, true_and, eq_self, Int.add_zero, Int.reduceAdd]; omega) | (simp (disch := omega) only [sA_same, sA_ne, ud_eq, ud_ne, Int.add_zero, Int.reduceAdd]; omega)) rfl ?_
            refine v_pf_i (n := 180) (kz := 2) xB_9 dX1_copy_177 xO_9 fl_1_19 fg_1_2 (Or.inl fn_1_2) (sh_60 _ _ _) (by decide) rfl rfl ?_
            (try simp (disch := omega) only [sA_same, sA_ne, sA_sA, sA_sr, sB_s, ud_eq, ud_ne, ud_ud, ud_sr, uB_s, Int.add_zero, Int.reduceAdd])
            refine v_iinc5 (n := 183) xB_9 dX1_copy_180 rfl (by first | omega | (simp only [sA_same, sA_s, ud_s, Int.reduceEq, if_true, if_false, ite_true, ite_false, ↓reduceIte, and_true, true_and, eq_self, Int.add_zero, Int.reduceAdd]; omega) | (simp (disch := omega) only [sA_same, sA_ne, ud_eq, ud_ne, Int.add_zero, Int.reduceAdd]; omega)) rfl ?_
            refine v_aload_n (n := 184) xB_9 dX1_copy_183 rfl rfl ?_
            refine v_gf_s (n := 187) (kz := 0) xB_9 dX1_copy_184 xO_9 fl_1_9 fg_1_0 (sh_60 _ _ _) rfl st_60_0 rfl ?_
            refine v_iload (n := 189) xB_9 dX1_copy_187 rfl rfl ?_
            refine v_iload (n := 191) xB_9 dX1_copy_189 rfl rfl ?_
            refine v_iload (n := 193) xB_9 dX1_copy_191 rfl rfl ?_
            refine v_call_s (n := 196) xB_9 dX1_copy_193 xO_9 sp_1_71 (Or.inl rfl) iv_1_71 rfl rfl rfl rfl ?_
            refine k_laidOut (by omega) (by first | exact hsh | exact wpF_ok _ hsh (by have := (hr ((n : Int) % 4)); unfold mn60; split <;> omega) (by have := (hr ((n : Int) % 4)); unfold mn60; split <;> omega)) ?_
            refine v_iastore (n := 197) (lz := 12) xB_9 dX1_copy_196 (sh_61 _ _ _) (by decide) rfl (by first | omega | (simp only [sA_same, sA_s, ud_s, Int.reduceEq, if_true, if_false, ite_true, ite_false, ↓reduceIte, and_true, true_and, eq_self, Int.add_zero, Int.reduceAdd]; omega) | (simp (disch := omega) only [sA_same, sA_ne, ud_eq, ud_ne, Int.add_zero, Int.reduceAdd]; omega)) rfl ?_
            (try simp (disch := omega) only [sA_same, sA_ne, sA_sA, sA_sr, sB_s, ud_eq, ud_ne, ud_ud, ud_sr, uB_s, Int.add_zero, Int.reduceAdd])
            refine v_aload_n (n := 198) xB_9 dX1_copy_197 rfl rfl ?_
            refine v_dup (n := 199) xB_9 dX1_copy_198 rfl rfl ?_
            refine v_gf_i (n := 202) (kz := 1) xB_9 dX1_copy_199 xO_9 fl_1_15 fg_1_1 rfl (sh_60 _ _ _) rfl rfl ?_
            refine v_iconst (n := 203) xB_9 dX1_copy_202 ⟨by decide, by decide⟩ rfl ?_
            refine v_iadd (n := 204) xB_9 dX1_copy_203 (by first | omega | (simp only [sA_same, sA_s, ud_s, Int.reduceEq, if_true, if_false, ite_true, ite_false, ↓reduceIte, and_true, true_and, eq_self, Int.add_zero, Int.reduceAdd]; omega) | (simp (disch := omega) only [sA_same, sA_ne, ud_eq, ud_ne, Int.add_zero, Int.reduceAdd]; omega)) rfl ?_
            refine v_pf_i (n := 207) (kz := 1) xB_9 dX1_copy_204 xO_9 fl_1_15 fg_1_1 (Or.inl fn_1_1) (sh_60 _ _ _) (by decide) rfl rfl ?_
            (try simp (disch := omega) only [sA_same, sA_ne, sA_sA, sA_sr, sB_s, ud_eq, ud_ne, ud_ud, ud_sr, uB_s, Int.add_zero, Int.reduceAdd])
            refine v_iinc7 (n := 210) xB_9 dX1_copy_207 rfl (by first | omega | (simp only [sA_same, sA_s, ud_s, Int.reduceEq, if_true, if_false, ite_true, ite_false, ↓reduceIte, and_true, true_and, eq_self, Int.add_zero, Int.reduceAdd]; omega) | (simp (disch := omega) only [sA_same, sA_ne, ud_eq, ud_ne, Int.add_zero, Int.reduceAdd]; omega)) rfl ?_
            refine v_goto (t := 26) xB_9 dX1_copy_210 (by decide) rfl ?_
            have hd0 : dryF kd v n = false := by assumption
            rw [hd0, if_neg (by decide)] at hpg1 hpr1
            rw [vS_stW hok 3 (by omega)] at gH
            have hs1 : spF kd v CL n = false := by unfold spF; exact decide_eq_false (by omega)
            have hix : (if kd = 4 then m p 1 - 1 - (n : Int) else n) = (n : Int) := by first | rw [if_pos hk] | rw [if_neg (by omega)]
            rw [← hpr1, ← Int.natCast_succ]
            refine ih (n + 1) _ _ _ _ _ (by omega) (hgo hs1) hpg1.symm (okc_ud hf (lyF_ok _ (wpF_ok _ hsh (by have := (hr ((n : Int) % 4)); unfold mn60; split <;> omega) (by have := (hr ((n : Int) % 4)); unfold mn60; split <;> omega))) _) (fun i hi => ?_)
            by_cases hx : (i : Int) = n
            · have hi2 : i = n := by omega
              subst hi2
              rw [ud_eq]
              unfold oF
              rw [hd0, if_neg (by decide), hix]
              rw [gH]
              rw [if_neg (by omega)]
              first | rfl | (simp only [Int.add_zero, decide_true, decide_false, Int.reduceEq]; done) | (simp only [Int.add_zero, decide_true, decide_false, Int.reduceEq]; rfl)
            · rw [ud_ne (by omega)]
              exact ho2 i (by omega)
          · (try simp (disch := omega) only [sA_same, sA_ne, sA_sA, sA_sr, sB_s, ud_eq, ud_ne, ud_ud, ud_sr, uB_s, Int.add_zero, Int.reduceAdd] at g4)
            refine v_istore9 (n := 129) xB_9 dX1_copy_127 rfl rfl ?_
            refine v_iload (n := 131) xB_9 dX1_copy_129 rfl rfl ?_
            refine v_bipush (n := 133) xB_9 dX1_copy_131 ⟨by decide, by decide⟩ rfl ?_
            refine v_ic_ne_y (t := 148) xB_9 dX1_copy_133 (by decide) rfl (by first | omega | (simp only [sA_same, sA_s, ud_s, Int.reduceEq, if_true, if_false, ite_true, ite_false, ↓reduceIte, and_true, true_and, eq_self, Int.add_zero, Int.reduceAdd]; omega) | (simp (disch := omega) only [sA_same, sA_ne, ud_eq, ud_ne, Int.add_zero, Int.reduceAdd]; omega)) ?_
            refine v_iconst (n := 149) xB_9 dX1_copy_148 ⟨by decide, by decide⟩ rfl ?_
            refine v_istore10 (n := 151) xB_9 dX1_copy_149 rfl rfl ?_
            refine v_iload (n := 153) xB_9 dX1_copy_151 rfl rfl ?_
            refine v_iload (n := 155) xB_9 dX1_copy_153 rfl rfl ?_
            refine v_iload (n := 157) xB_9 dX1_copy_155 rfl rfl ?_
            refine v_iadd (n := 158) xB_9 dX1_copy_157 (by first | omega | (simp only [sA_same, sA_s, ud_s, Int.reduceEq, if_true, if_false, ite_true, ite_false, ↓reduceIte, and_true, true_and, eq_self, Int.add_zero, Int.reduceAdd]; omega) | (simp (disch := omega) only [sA_same, sA_ne, ud_eq, ud_ne, Int.add_zero, Int.reduceAdd]; omega)) rfl ?_
            refine v_bipush (n := 160) xB_9 dX1_copy_158 ⟨by decide, by decide⟩ rfl ?_
            refine v_min (n := 163) xB_9 dX1_copy_160 xO_9 sp_1_61 rfl rfl ?_
            rw [← mn60_s]
            (try simp (disch := omega) only [sA_same, sA_ne, sA_sA, sA_sr, sB_s, ud_eq, ud_ne, ud_ud, ud_sr, uB_s, Int.add_zero, Int.reduceAdd])
            refine v_iload (n := 165) xB_9 dX1_copy_163 rfl rfl ?_
            refine v_call_s (n := 168) xB_9 dX1_copy_165 xO_9 sp_1_67 (Or.inl rfl) iv_1_67 rfl rfl rfl rfl ?_
            refine k_withPage (by omega) hsh (by have := (hr ((n : Int) % 4)); unfold mn60; split <;> omega) (by decide) ?_
            refine v_istore8 (n := 170) xB_9 dX1_copy_168 rfl rfl ?_
            refine v_aload_n (n := 171) xB_9 dX1_copy_170 rfl rfl ?_
            refine v_dup (n := 172) xB_9 dX1_copy_171 rfl rfl ?_
            refine v_gf_i (n := 175) (kz := 2) xB_9 dX1_copy_172 xO_9 fl_1_19 fg_1_2 rfl (sh_60 _ _ _) rfl rfl ?_
            refine v_iconst (n := 176) xB_9 dX1_copy_175 ⟨by decide, by decide⟩ rfl ?_
            refine v_iadd (n := 177) xB_9 dX1_copy_176 (by first | omega | (simp only [sA_same, sA_s, ud_s, Int.reduceEq, if_true, if_false, ite_true, ite_false, ↓reduceIte, and_true, true_and, eq_self, Int.add_zero, Int.reduceAdd]; omega) | (simp (disch := omega) only [sA_same, sA_ne, ud_eq, ud_ne, Int.add_zero, Int.reduceAdd]; omega)) rfl ?_
            refine v_pf_i (n := 180) (kz := 2) xB_9 dX1_copy_177 xO_9 fl_1_19 fg_1_2 (Or.inl fn_1_2) (sh_60 _ _ _) (by decide) rfl rfl ?_
            (try simp (disch := omega) only [sA_same, sA_ne, sA_sA, sA_sr, sB_s, ud_eq, ud_ne, ud_ud, ud_sr, uB_s, Int.add_zero, Int.reduceAdd])
            refine v_iinc5 (n := 183) xB_9 dX1_copy_180 rfl (by first | omega | (simp only [sA_same, sA_s, ud_s, Int.reduceEq, if_true, if_false, ite_true, ite_false, ↓reduceIte, and_true, true_and, eq_self, Int.add_zero, Int.reduceAdd]; omega) | (simp (disch := omega) only [sA_same, sA_ne, ud_eq, ud_ne, Int.add_zero, Int.reduceAdd]; omega)) rfl ?_
            refine v_aload_n (n := 184) xB_9 dX1_copy_183 rfl rfl ?_
            refine v_gf_s (n := 187) (kz := 0) xB_9 dX1_copy_184 xO_9 fl_1_9 fg_1_0 (sh_60 _ _ _) rfl st_60_0 rfl ?_
            refine v_iload (n := 189) xB_9 dX1_copy_187 rfl rfl ?_
            refine v_iload (n := 191) xB_9 dX1_copy_189 rfl rfl ?_
            refine v_iload (n := 193) xB_9 dX1_copy_191 rfl rfl ?_
            refine v_call_s (n := 196) xB_9 dX1_copy_193 xO_9 sp_1_71 (Or.inl rfl) iv_1_71 rfl rfl rfl rfl ?_
            refine k_laidOut (by omega) (by first | exact hsh | exact wpF_ok _ hsh (by have := (hr ((n : Int) % 4)); unfold mn60; split <;> omega) (by have := (hr ((n : Int) % 4)); unfold mn60; split <;> omega)) ?_
            refine v_iastore (n := 197) (lz := 12) xB_9 dX1_copy_196 (sh_61 _ _ _) (by decide) rfl (by first | omega | (simp only [sA_same, sA_s, ud_s, Int.reduceEq, if_true, if_false, ite_true, ite_false, ↓reduceIte, and_true, true_and, eq_self, Int.add_zero, Int.reduceAdd]; omega) | (simp (disch := omega) only [sA_same, sA_ne, ud_eq, ud_ne, Int.add_zero, Int.reduceAdd]; omega)) rfl ?_
            (try simp (disch := omega) only [sA_same, sA_ne, sA_sA, sA_sr, sB_s, ud_eq, ud_ne, ud_ud, ud_sr, uB_s, Int.add_zero, Int.reduceAdd])
            refine v_aload_n (n := 198) xB_9 dX1_copy_197 rfl rfl ?_
            refine v_dup (n := 199) xB_9 dX1_copy_198 rfl rfl ?_
            refine v_gf_i (n := 202) (kz := 1) xB_9 dX1_copy_199 xO_9 fl_1_15 fg_1_1 rfl (sh_60 _ _ _) rfl rfl ?_
            refine v_iconst (n := 203) xB_9 dX1_copy_202 ⟨by decide, by decide⟩ rfl ?_
            refine v_iadd (n := 204) xB_9 dX1_copy_203 (by first | omega | (simp only [sA_same, sA_s, ud_s, Int.reduceEq, if_true, if_false, ite_true, ite_false, ↓reduceIte, and_true, true_and, eq_self, Int.add_zero, Int.reduceAdd]; omega) | (simp (disch := omega) only [sA_same, sA_ne, ud_eq, ud_ne, Int.add_zero, Int.reduceAdd]; omega)) rfl ?_
            refine v_pf_i (n := 207) (kz := 1) xB_9 dX1_copy_204 xO_9 fl_1_15 fg_1_1 (Or.inl fn_1_1) (sh_60 _ _ _) (by decide) rfl rfl ?_
            (try simp (disch := omega) only [sA_same, sA_ne, sA_sA, sA_sr, sB_s, ud_eq, ud_ne, ud_ud, ud_sr, uB_s, Int.add_zero, Int.reduceAdd])
            refine v_iinc7 (n := 210) xB_9 dX1_copy_207 rfl (by first | omega | (simp only [sA_same, sA_s, ud_s, Int.reduceEq, if_true, if_false, ite_true, ite_false, ↓reduceIte, and_true, true_and, eq_self, Int.add_zero, Int.reduceAdd]; omega) | (simp (disch := omega) only [sA_same, sA_ne, ud_eq, ud_ne, Int.add_zero, Int.reduceAdd]; omega)) rfl ?_
            refine v_goto (t := 26) xB_9 dX1_copy_210 (by decide) rfl ?_
            have hd0 : dryF kd v n = false := by assumption
            rw [hd0, if_neg (by decide)] at hpg1 hpr1
            rw [vS_stW hok 3 (by omega)] at gH
            have hs1 : spF kd v CL n = false := by unfold spF; exact decide_eq_false (by omega)
            have hix : (if kd = 4 then m p 1 - 1 - (n : Int) else n) = (n : Int) := by first | rw [if_pos hk] | rw [if_neg (by omega)]
            rw [← hpr1, ← Int.natCast_succ]
            refine ih (n + 1) _ _ _ _ _ (by omega) (hgo hs1) hpg1.symm (okc_ud hf (lyF_ok _ (wpF_ok _ hsh (by have := (hr ((n : Int) % 4)); unfold mn60; split <;> omega) (by have := (hr ((n : Int) % 4)); unfold mn60; split <;> omega))) _) (fun i hi => ?_)
            by_cases hx : (i : Int) = n
            · have hi2 : i = n := by omega
              subst hi2
              rw [ud_eq]
              unfold oF
              rw [hd0, if_neg (by decide), hix]
              rw [gH]
              rw [if_neg (by omega)]
              first | rfl | (simp only [Int.add_zero, decide_true, decide_false, Int.reduceEq]; done) | (simp only [Int.add_zero, decide_true, decide_false, Int.reduceEq]; rfl)
            · rw [ud_ne (by omega)]
              exact ho2 i (by omega)
    · have hpf : pfF (tlW CL) (nxF kd v n CL pg) = tlW CL + 1 := by rw [← hqe]; unfold pfF; rw [if_neg hqt]
      refine v_iload (n := 28) xB_9 dX1_copy_26 rfl rfl ?_
      refine v_aload_n (n := 29) xB_9 dX1_copy_28 rfl rfl ?_
      refine v_gf_i (n := 32) (kz := 1) xB_9 dX1_copy_29 xO_9 fl_1_32 fg_4_1 rfl (sh_P hp _ _ _) rfl rfl ?_
      refine v_ic_ge_n (n := 35) xB_9 dX1_copy_32 (by decide) rfl (by first | omega | (simp only [sA_same, sA_s, ud_s, Int.reduceEq, if_true, if_false, ite_true, ite_false, ↓reduceIte, and_true, true_and, eq_self, Int.add_zero, Int.reduceAdd]; omega) | (simp (disch := omega) only [sA_same, sA_ne, ud_eq, ud_ne, Int.add_zero, Int.reduceAdd]; omega)) ?_
      refine v_aload (n := 37) xB_9 dX1_copy_35 rfl rfl ?_
      refine v_iload (n := 39) xB_9 dX1_copy_37 rfl rfl ?_
      refine v_iload (n := 41) xB_9 dX1_copy_39 rfl rfl ?_
      refine v_iload_n (n := 42) xB_9 dX1_copy_41 rfl rfl ?_
      refine v_iload (n := 44) xB_9 dX1_copy_42 rfl rfl ?_
      refine v_call_v (n := 47) xB_9 dX1_copy_44 xO_9 iv_1_37 rfl (sh_dyn' ho hJ.1.2.1 _ _) rfl rfl rfl ?_
      refine k_pageFrom (by omega) (JC_fr (m := m) (fun a ha => by simp (disch := omega) only [sA_ne]) _ _ _ hJ) (by first | omega | (simp only [sA_same, sA_s, ud_s, Int.reduceEq, if_true, if_false, ite_true, ite_false, ↓reduceIte, and_true, true_and, eq_self, Int.add_zero, Int.reduceAdd]; omega) | (simp (disch := omega) only [sA_same, sA_ne, ud_eq, ud_ne, Int.add_zero, Int.reduceAdd]; omega)) ?_
      rw [hpf]
      refine v_istore5 (n := 49) xB_9 dX1_copy_47 rfl rfl ?_
      refine v_iload (n := 51) xB_9 dX1_copy_49 rfl rfl ?_
      refine v_aload (n := 53) xB_9 dX1_copy_51 rfl rfl ?_
      refine v_gf_i (n := 56) (kz := 1) xB_9 dX1_copy_53 xO_9 fl_1_41 fg_2_1 rfl (sh_dyn' ho hJ.1.2.1 _ _) rfl rfl ?_
      refine v_ic_gt_y (t := 213) xB_9 dX1_copy_56 (by decide) rfl (by first | omega | (simp only [sA_same, sA_s, ud_s, Int.reduceEq, if_true, if_false, ite_true, ite_false, ↓reduceIte, and_true, true_and, eq_self, Int.add_zero, Int.reduceAdd]; omega) | (simp (disch := omega) only [sA_same, sA_ne, ud_eq, ud_ne, Int.add_zero, Int.reduceAdd]; omega)) ?_
      have hs : n = T := hst (by unfold spF; exact decide_eq_true (by omega))
      subst hs
      exact hE _ _ _ _ _ hf ho2
set_option maxHeartbeats 2000000 in
theorem vk_end {d : Nat} {t o p v kd pg nn : Int} {m : PM} {dy : List (Nat × Nat)} {L : Nat} {Q : Option PV → PS → Prop} {x8 x9 x10 : Option PV} (hd : 1 ≤ d) (hp : pilA p) (hN : 0 ≤ m p 1 ∧ m p 1 ≤ 12) (hc : okc (m (p + 1))) (hf : okc (m 61)) (hT : 0 ≤ m 60 1 ∧ m 60 1 ≤ m p 1) (o1 : ∀ f : Int → Int, okc f → (∀ s, 0 ≤ s → s < m p 1 → f s = if s < m p 1 - m 60 1 then m (p + 1) ((if kd = 4 then 0 else m 60 1) + s) else m 61 (m p 1 - 1 - s)) → Q none (setA m (p + 1) f, (none, (dy, L)))) : V d 9 (213, ([some (.inr (.inr 60)), some (.inr (.inr p)), some (.inr (.inr (17 + 2 * t))), some (.inl v), some (.inr (.inr o)), some (.inl (pg)), some (.inl kd), some (.inl (nn)), x8, x9, x10], ([], (m, (none, (dy, L)))))) Q := by
  refine v_aload_n (n := 214) xB_9 dX1_copy_213 rfl rfl ?_
  refine v_aload_n (n := 215) xB_9 dX1_copy_214 rfl rfl ?_
  refine v_iload (n := 217) xB_9 dX1_copy_215 rfl rfl ?_
  refine v_iconst (n := 218) xB_9 dX1_copy_217 ⟨by decide, by decide⟩ rfl ?_
  refine v_ic_ne (t := 225) (n := 221) xB_9 dX1_copy_218 (by decide) rfl rfl (fun g1 => ?_) (fun g1 => ?_)
  · refine v_aload_n (n := 226) xB_9 dX1_copy_225 rfl rfl ?_
    refine v_gf_i (n := 229) (kz := 1) xB_9 dX1_copy_226 xO_9 fl_1_15 fg_1_1 rfl (sh_60 _ _ _) rfl rfl ?_
    refine v_call_v (n := 232) xB_9 dX1_copy_229 xO_9 iv_1_74 rfl (sh_60 _ _ _) rfl rfl rfl ?_
    refine k_gather (by omega) hp (by first | omega | (simp only [sA_same, sA_s, ud_s, Int.reduceEq, if_true, if_false, ite_true, ite_false, ↓reduceIte, and_true, true_and, eq_self, Int.add_zero, Int.reduceAdd]; omega) | (simp (disch := omega) only [sA_same, sA_ne, ud_eq, ud_ne, Int.add_zero, Int.reduceAdd]; omega)) (by first | omega | (simp only [sA_same, sA_s, ud_s, Int.reduceEq, if_true, if_false, ite_true, ite_false, ↓reduceIte, and_true, true_and, eq_self, Int.add_zero, Int.reduceAdd]; omega) | (simp (disch := omega) only [sA_same, sA_ne, ud_eq, ud_ne, Int.add_zero, Int.reduceAdd]; omega)) (by first | omega | (simp only [sA_same, sA_s, ud_s, Int.reduceEq, if_true, if_false, ite_true, ite_false, ↓reduceIte, and_true, true_and, eq_self, Int.add_zero, Int.reduceAdd]; omega) | (simp (disch := omega) only [sA_same, sA_ne, ud_eq, ud_ne, Int.add_zero, Int.reduceAdd]; omega)) hc hf (fun f h1 h2 => ?_)
    refine v_return xB_9 dX1_copy_232 xK_9 ?_
    refine o1 f h1 (fun s h3 h4 => ?_)
    rw [h2 s h3 h4]
    first | rw [if_pos (c := kd = 4) (by omega)] | rw [if_neg (c := kd = 4) (by omega)]
  · refine v_iconst (n := 222) xB_9 dX1_copy_221 ⟨by decide, by decide⟩ rfl ?_
    refine v_goto (t := 229) xB_9 dX1_copy_222 (by decide) rfl ?_
    refine v_call_v (n := 232) xB_9 dX1_copy_229 xO_9 iv_1_74 rfl (sh_60 _ _ _) rfl rfl rfl ?_
    refine k_gather (by omega) hp (by first | omega | (simp only [sA_same, sA_s, ud_s, Int.reduceEq, if_true, if_false, ite_true, ite_false, ↓reduceIte, and_true, true_and, eq_self, Int.add_zero, Int.reduceAdd]; omega) | (simp (disch := omega) only [sA_same, sA_ne, ud_eq, ud_ne, Int.add_zero, Int.reduceAdd]; omega)) (by first | omega | (simp only [sA_same, sA_s, ud_s, Int.reduceEq, if_true, if_false, ite_true, ite_false, ↓reduceIte, and_true, true_and, eq_self, Int.add_zero, Int.reduceAdd]; omega) | (simp (disch := omega) only [sA_same, sA_ne, ud_eq, ud_ne, Int.add_zero, Int.reduceAdd]; omega)) (by first | omega | (simp only [sA_same, sA_s, ud_s, Int.reduceEq, if_true, if_false, ite_true, ite_false, ↓reduceIte, and_true, true_and, eq_self, Int.add_zero, Int.reduceAdd]; omega) | (simp (disch := omega) only [sA_same, sA_ne, ud_eq, ud_ne, Int.add_zero, Int.reduceAdd]; omega)) hc hf (fun f h1 h2 => ?_)
    refine v_return xB_9 dX1_copy_232 xK_9 ?_
    refine o1 f h1 (fun s h3 h4 => ?_)
    rw [h2 s h3 h4]
    first | rw [if_pos (c := kd = 4) (by omega)] | rw [if_neg (c := kd = 4) (by omega)]
set_option maxHeartbeats 1000000 in
theorem k_copy {d : Nat} {p t v o : Int} {CL : CLs} {m : PM} {dy : List (Nat × Nat)} {L : Nat} {Q : Option PV → PS → Prop} (hd : 4 ≤ d) (hp : pilA p) (ht : 0 ≤ t ∧ t < 5) (hN : 0 ≤ m p 1 ∧ m p 1 ≤ 12) (hc : okc (m (p + 1))) (hcO : okc (m 61)) (hv : 0 ≤ v ∧ v ≤ 9) (hk6 : 0 ≤ m (17 + 2 * t) 0 ∧ m (17 + 2 * t) 0 ≤ 6) (hr : r9 (m (18 + 2 * t))) (hJ : JC m dy o CL) (o1 : ∀ fo fc : Int → Int, okc fo → okc fc → (∀ s, 0 ≤ s → s < m p 1 → fc s = cF (m (17 + 2 * t) 0) v (m (18 + 2 * t)) CL (m p 1) (m (p + 1)) s) → Q (none) (setA (setA (setA (m) 60 (ud (ud (m 60) 1 (TF (m (17 + 2 * t) 0) v CL (m p 1))) 2 (prF (m (17 + 2 * t) 0) v (TF (m (17 + 2 * t) 0) v CL (m p 1))))) 61 (fo)) (p + 1) (fc), (none, (dy, L)))) : C d 9 [.inr (.inr 60), .inr (.inr p), .inr (.inr (17 + 2 * t)), .inl v, .inr (.inr o)] (m, (none, (dy, L))) Q := by
  refine C_go (k := 3) hd xL_9 (fun d hd => ?_)
  show V d 9 (0, ([some (.inr (.inr 60)), some (.inr (.inr p)), some (.inr (.inr (17 + 2 * t))), some (.inl v), some (.inr (.inr o)), none, none, none, none, none, none], ([], (m, (none, (dy, L)))))) Q
  have hpd : p = 2 ∨ p = 28 ∨ p = 62 ∨ p = 64 := hp
  have ho : 129 ≤ o := hJ.1.1
  refine v_aload_n (n := 1) xB_9 dX1_copy_0 rfl rfl ?_
  refine v_iconst (n := 2) xB_9 dX1_copy_1 ⟨by decide, by decide⟩ rfl ?_
  refine v_pf_i (n := 5) (kz := 1) xB_9 dX1_copy_2 xO_9 fl_1_15 fg_1_1 (Or.inl fn_1_1) (sh_60 _ _ _) (by decide) rfl rfl ?_
  (try simp (disch := omega) only [sA_same, sA_ne, sA_sA, sA_sr, sB_s, ud_eq, ud_ne, ud_ud, ud_sr, uB_s, Int.add_zero, Int.reduceAdd])
  refine v_aload_n (n := 6) xB_9 dX1_copy_5 rfl rfl ?_
  refine v_iconst (n := 7) xB_9 dX1_copy_6 ⟨by decide, by decide⟩ rfl ?_
  refine v_pf_i (n := 10) (kz := 2) xB_9 dX1_copy_7 xO_9 fl_1_19 fg_1_2 (Or.inl fn_1_2) (sh_60 _ _ _) (by decide) rfl rfl ?_
  (try simp (disch := omega) only [sA_same, sA_ne, sA_sA, sA_sr, sB_s, ud_eq, ud_ne, ud_ud, ud_sr, uB_s, Int.add_zero, Int.reduceAdd])
  refine v_aload (n := 12) xB_9 dX1_copy_10 rfl rfl ?_
  refine v_gf_i (n := 15) (kz := 0) xB_9 dX1_copy_12 xO_9 fl_1_22 fg_2_0 rfl (sh_dyn' ho hJ.1.2.1 _ _) rfl rfl ?_
  refine v_istore5 (n := 17) xB_9 dX1_copy_15 rfl rfl ?_
  refine v_aload_n (n := 18) xB_9 dX1_copy_17 rfl rfl ?_
  refine v_gf_i (n := 21) (kz := 0) xB_9 dX1_copy_18 xO_9 fl_1_27 fg_9_0 rfl (sh_T (by first | omega | (simp only [sA_same, sA_s, ud_s, Int.reduceEq, if_true, if_false, ite_true, ite_false, ↓reduceIte, and_true, true_and, eq_self, Int.add_zero, Int.reduceAdd]; omega) | (simp (disch := omega) only [sA_same, sA_ne, ud_eq, ud_ne, Int.add_zero, Int.reduceAdd]; omega)) _ _ _) rfl rfl ?_
  refine v_istore6 (n := 23) xB_9 dX1_copy_21 rfl rfl ?_
  refine v_iconst (n := 24) xB_9 dX1_copy_23 ⟨by decide, by decide⟩ rfl ?_
  refine v_istore7 (n := 26) xB_9 dX1_copy_24 rfl rfl ?_
  (try simp (disch := omega) only [sA_same, sA_ne, sA_sA, sA_sr, sB_s, ud_eq, ud_ne, ud_ud, ud_sr, uB_s, Int.add_zero, Int.reduceAdd])
  rw [show ∀ U : Int → Int, setA m 60 U = setA (setA m 60 U) 61 (m 61) from fun U => by funext a; simp only [sA_s]; (repeat' split) <;> first | rfl | omega | (subst_vars; rfl)]
  refine vk_copy (by omega) hp ht hN hc hv hk6 hr hJ (T := TF (m (17 + 2 * t) 0) v CL (m p 1)) (fun pg f x8 x9 x10 hf ho2 => ?_) (m p 1).toNat 0 _ (m 61) _ _ _ (by omega) rfl ?_ hcO (fun i hi => absurd hi (by omega))
  · have hT := tkF_in (m (17 + 2 * t) 0) v CL (m p 1).toNat 0
    have hT2 : (TF (m (17 + 2 * t) 0) v CL (m p 1) : Int) ≤ m p 1 := by unfold TF; omega
    refine vk_end (by omega) hp ?_ ?_ ?_ ?_ (fun f2 h1 h2 => ?_)
    · simp (disch := omega) only [sA_ne]; exact hN
    · simp (disch := omega) only [sA_ne]; exact hc
    · simp (disch := omega) only [sA_same]; exact hf
    · simp (disch := omega) only [sA_ne, sA_same, ud_eq, ud_ne]; omega
    · simp (disch := omega) only [sA_ne, sA_same, ud_eq, ud_ne] at h2 ⊢
      refine o1 f f2 hf h1 (fun s h3 h4 => ?_)
      rw [h2 s h3 h4]
      unfold cF
      by_cases hs : s < m p 1 - (TF (m (17 + 2 * t) 0) v CL (m p 1) : Int)
      · rw [if_pos hs, if_pos hs]
      · rw [if_neg hs, if_neg hs]
        have e := ho2 (m p 1 - 1 - s).toNat (by omega)
        rw [show (((m p 1 - 1 - s).toNat : Nat) : Int) = m p 1 - 1 - s by omega] at e
        exact e
  · exact hJ.1.2.2.1
