/-! The reference: a run. -/
theorem JRs_fr {m m' : PM} (h : m' 88 = m 88 ∧ m' 89 = m 89 ∧ m' 90 = m 90 ∧ m' 91 = m 91 ∧ m' 92 = m 92) : ∀ (CL : CLs) (c : Int), JRs m' c CL = JRs m c CL := by
  obtain ⟨h1, h2, h3, h4, h5⟩ := h
  intro CL
  induction CL with
  | nil => intro c; rfl
  | cons x CL ih => intro c; unfold JRs RCs; rw [ih, h1, h2, h3, h4, h5]
theorem JR_fr {m m' : PM} (h0 : m' 87 = m 87) (h : m' 88 = m 88 ∧ m' 89 = m 89 ∧ m' 90 = m 90 ∧ m' 91 = m 91 ∧ m' 92 = m 92) (j : Int) (CL : CLs) : JR m' j CL = JR m j CL := by
  unfold JR; rw [JRs_fr h, h0]
theorem of_eq' {P P' : Prop} (h : P' = P) (p : P) : P' := h ▸ p
theorem mnmo {k x p : Int} (h : 0 ≤ p) (hx : 0 ≤ x) : 0 ≤ mn60 (p + moF k x) ∧ mn60 (p + moF k x) < 128 := by
  have : 0 ≤ moF k x := by unfold moF; split <;> omega
  unfold mn60; split <;> omega
theorem prF_in (k v : Int) (n : Nat) : 0 ≤ prF k v n ∧ prF k v n ≤ n := by
  induction n with
  | zero => unfold prF; omega
  | succ n ih => unfold prF; split <;> omega
set_option maxHeartbeats 4000000 in
theorem v_goRun {d : Nat} {t j : Int} {CL : CLs} {m : PM} {dy : List (Nat × Nat)} {L : Nat} {Q : Option PV → PS → Prop} {T : Nat} (hd : 4 ≤ d) (hj : 0 ≤ j ∧ j < 6) (hJ : JR m j CL) (ht : 0 ≤ t ∧ t < 5) (hN : 0 ≤ m 81 22 ∧ m 81 22 ≤ 12) (h82 : 0 ≤ m 82 t ∧ m 82 t ≤ 6) (h83 : 0 ≤ m 83 t ∧ m 83 t ≤ 9) (hr : r9 (m 85)) (hb : bl (m 99)) (hp : pgs (m 96)) (hE : ∀ (top low pg : Int) (f95 sd od dn on : Int → Int) (x6 x7 x8 : Option PV), top = (if m 82 t = 4 then 0 else (T : Int)) → low = (if m 82 t = 4 then m 81 22 - 1 - (T : Int) else m 81 22 - 1) → bl dn → pgs sd → bl on → pgs od → (∀ s, top ≤ s → s ≤ low → pkA sd dn s = pkA (m 96) (m 99) s) → (∀ i : Nat, i < T → pkA od on i = oF (m 82 t) (m 83 t) (fun x => m 85 (4 * t + x)) CL (m 81 22) (pkA (m 96) (m 99)) i) → V d 168 (209, ([some (.inr (.inr 81)), some (.inl t), some (.inl j), some (.inl (top)), some (.inl (low)), some (.inl (pg)), x6, x7, x8], ([], (setA (setA (setA (setA (setA (setA (m) 81 (ud (ud (m 81) 29 (T)) 30 (prF (m 82 t) (m 83 t) T))) 95 (f95)) 96 (sd)) 97 (od)) 99 (dn)) 100 (on), (none, (dy, L)))))) Q) : ∀ (F n : Nat) (top low pg : Int) (f95 sd od dn on : Int → Int) (x6 x7 x8 : Option PV), (n : Int) + F = m 81 22 → tkF (m 82 t) (m 83 t) CL F n = T → pg = qF (m 82 t) (m 83 t) CL n → top = (if m 82 t = 4 then 0 else (n : Int)) → low = (if m 82 t = 4 then m 81 22 - 1 - (n : Int) else m 81 22 - 1) → bl dn → pgs sd → bl on → pgs od → (∀ s, top ≤ s → s ≤ low → pkA sd dn s = pkA (m 96) (m 99) s) → (∀ i : Nat, i < n → pkA od on i = oF (m 82 t) (m 83 t) (fun x => m 85 (4 * t + x)) CL (m 81 22) (pkA (m 96) (m 99)) i) → V d 168 (33, ([some (.inr (.inr 81)), some (.inl t), some (.inl j), some (.inl (top)), some (.inl (low)), some (.inl (pg)), x6, x7, x8], ([], (setA (setA (setA (setA (setA (setA (m) 81 (ud (ud (m 81) 29 (n)) 30 (prF (m 82 t) (m 83 t) n))) 95 (f95)) 96 (sd)) 97 (od)) 99 (dn)) 100 (on), (none, (dy, L)))))) Q := by
  intro F
  have hok := JR_ok hJ
  have htl := tlW_in hok
  induction F with
  | zero =>
    intro n top low pg f95 sd od dn on x6 x7 x8 hn hT hpg htop hlow hdn hsd hon hod hl ho
    have hT2 : n = T := hT
    subst hT2
    have hex : low < top := by rw [htop, hlow]; split <;> omega
    refine v_iload (n := 35) xB_168 dX11_goRun_33 rfl rfl ?_
    refine v_aload_n (n := 36) xB_168 dX11_goRun_35 rfl rfl ?_
    refine v_iload_n (n := 37) xB_168 dX11_goRun_36 rfl rfl ?_
    refine v_call_v (n := 40) xB_168 dX11_goRun_37 xO_168 iv_11_289 rfl (sh_81 _ _ _) rfl rfl rfl ?_
    refine c_last (by omega) (by first | omega | (simp only [sA_same, sA_s, ud_s, Int.reduceEq, if_true, if_false, ite_true, ite_false, ↓reduceIte, and_true, true_and, eq_self, Int.add_zero, Int.reduceAdd]; omega)) (of_eq' (JR_fr (m := m) (by simp (disch := omega) only [sA_ne]) ⟨by simp (disch := omega) only [sA_ne], by simp (disch := omega) only [sA_ne], by simp (disch := omega) only [sA_ne], by simp (disch := omega) only [sA_ne], by simp (disch := omega) only [sA_ne]⟩ _ _) hJ) ?_
    refine v_ic_gt (t := 209) (n := 43) xB_168 dX11_goRun_40 (by decide) rfl rfl (fun g1 => ?_) (fun g1 => ?_)
    · (try simp (disch := omega) only [sA_same, sA_ne, sA_sA, sA_sr, sB_s, ud_eq, ud_ne, ud_ud, ud_sr, uB_s, Int.add_zero, Int.reduceAdd] at g1)
      exact hE _ _ _ _ _ _ _ _ _ _ _ htop hlow hdn hsd hon hod hl ho
    · (try simp (disch := omega) only [sA_same, sA_ne, sA_sA, sA_sr, sB_s, ud_eq, ud_ne, ud_ud, ud_sr, uB_s, Int.add_zero, Int.reduceAdd] at g1)
      refine v_iload_n (n := 44) xB_168 dX11_goRun_43 rfl rfl ?_
      refine v_iload (n := 46) xB_168 dX11_goRun_44 rfl rfl ?_
      refine v_ic_gt_y (t := 209) xB_168 dX11_goRun_46 (by decide) rfl (by first | omega | (simp only [sA_same, sA_s, ud_s, Int.reduceEq, if_true, if_false, ite_true, ite_false, ↓reduceIte, and_true, true_and, eq_self, Int.add_zero, Int.reduceAdd]; omega)) ?_
      exact hE _ _ _ _ _ _ _ _ _ _ _ htop hlow hdn hsd hon hod hl ho
  | succ F ih =>
    intro n top low pg f95 sd od dn on x6 x7 x8 hn hT hpg htop hlow hdn hsd hon hod hl ho
    have hq := qF_le (m 82 t) (m 83 t) hok n
    have hpr := prF_in (m 82 t) (m 83 t) n
    have hex : top ≤ low := by rw [htop, hlow]; split <;> omega
    have hgo : spF (m 82 t) (m 83 t) CL n = false → tkF (m 82 t) (m 83 t) CL F (n + 1) = T := fun e => by rw [← hT, tkF_go e]
    have hst : spF (m 82 t) (m 83 t) CL n = true → n = T := fun e => by rw [← hT, tkF_stop e]
    have hpg1 : pgF (m 82 t) (m 83 t) CL (n + 1) = if dryF (m 82 t) (m 83 t) n = true then pg else pg + 1 := by rw [hpg]; rfl
    have hpr1 : prF (m 82 t) (m 83 t) (n + 1) = if dryF (m 82 t) (m 83 t) n = true then prF (m 82 t) (m 83 t) n else prF (m 82 t) (m 83 t) n + 1 := rfl
    rcases (by omega : m 82 t = 4 ∨ m 82 t = 5 ∨ m 82 t = 3 ∨ m 82 t = 6 ∨ (m 82 t ≠ 4 ∧ m 82 t ≠ 5 ∧ m 82 t ≠ 3 ∧ m 82 t ≠ 6)) with hk | hk | hk | hk | hk
    · have hs0 : low = m 81 22 - 1 - n := by rw [hlow, if_pos hk]
      have ht0 : top = 0 := by rw [htop, if_pos hk]
      refine v_iload (n := 35) xB_168 dX11_goRun_33 rfl rfl ?_
      refine v_aload_n (n := 36) xB_168 dX11_goRun_35 rfl rfl ?_
      refine v_iload_n (n := 37) xB_168 dX11_goRun_36 rfl rfl ?_
      refine v_call_v (n := 40) xB_168 dX11_goRun_37 xO_168 iv_11_289 rfl (sh_81 _ _ _) rfl rfl rfl ?_
      refine c_last (by omega) (by first | omega | (simp only [sA_same, sA_s, ud_s, Int.reduceEq, if_true, if_false, ite_true, ite_false, ↓reduceIte, and_true, true_and, eq_self, Int.add_zero, Int.reduceAdd]; omega)) (of_eq' (JR_fr (m := m) (by simp (disch := omega) only [sA_ne]) ⟨by simp (disch := omega) only [sA_ne], by simp (disch := omega) only [sA_ne], by simp (disch := omega) only [sA_ne], by simp (disch := omega) only [sA_ne], by simp (disch := omega) only [sA_ne]⟩ _ _) hJ) ?_
      refine v_ic_gt (t := 209) (n := 43) xB_168 dX11_goRun_40 (by decide) rfl rfl (fun g1 => ?_) (fun g1 => ?_)
      · (try simp (disch := omega) only [sA_same, sA_ne, sA_sA, sA_sr, sB_s, ud_eq, ud_ne, ud_ud, ud_sr, uB_s, Int.add_zero, Int.reduceAdd] at g1)
        have hs : n = T := hst (by unfold spF; exact decide_eq_true (by omega))
        subst hs
        exact hE _ _ _ _ _ _ _ _ _ _ _ htop hlow hdn hsd hon hod hl ho
      · (try simp (disch := omega) only [sA_same, sA_ne, sA_sA, sA_sr, sB_s, ud_eq, ud_ne, ud_ud, ud_sr, uB_s, Int.add_zero, Int.reduceAdd] at g1)
        refine v_iload_n (n := 44) xB_168 dX11_goRun_43 rfl rfl ?_
        refine v_iload (n := 46) xB_168 dX11_goRun_44 rfl rfl ?_
        refine v_ic_gt_n (n := 49) xB_168 dX11_goRun_46 (by decide) rfl (by first | omega | (simp only [sA_same, sA_s, ud_s, Int.reduceEq, if_true, if_false, ite_true, ite_false, ↓reduceIte, and_true, true_and, eq_self, Int.add_zero, Int.reduceAdd]; omega)) ?_
        refine v_aload_n (n := 50) xB_168 dX11_goRun_49 rfl rfl ?_
        refine v_gf_s (n := 53) (kz := 1) xB_168 dX11_goRun_50 xO_168 fl_11_13 fg_11_1 (sh_81 _ _ _) rfl st_81_1 rfl ?_
        refine v_iload_n (n := 54) xB_168 dX11_goRun_53 rfl rfl ?_
        refine v_iaload (n := 55) (lz := 5) xB_168 dX11_goRun_54 (sh_82 _ _ _) rfl (by first | omega | (simp only [sA_same, sA_s, ud_s, Int.reduceEq, if_true, if_false, ite_true, ite_false, ↓reduceIte, and_true, true_and, eq_self, Int.add_zero, Int.reduceAdd]; omega)) rfl ?_
        refine v_iconst (n := 56) xB_168 dX11_goRun_55 ⟨by decide, by decide⟩ rfl ?_
        refine v_ic_ne_y (t := 72) xB_168 dX11_goRun_56 (by decide) rfl (by first | omega | (simp only [sA_same, sA_s, ud_s, Int.reduceEq, if_true, if_false, ite_true, ite_false, ↓reduceIte, and_true, true_and, eq_self, Int.add_zero, Int.reduceAdd]; omega)) ?_
        refine v_aload_n (n := 73) xB_168 dX11_goRun_72 rfl rfl ?_
        refine v_gf_s (n := 76) (kz := 1) xB_168 dX11_goRun_73 xO_168 fl_11_13 fg_11_1 (sh_81 _ _ _) rfl st_81_1 rfl ?_
        refine v_iload_n (n := 77) xB_168 dX11_goRun_76 rfl rfl ?_
        refine v_iaload (n := 78) (lz := 5) xB_168 dX11_goRun_77 (sh_82 _ _ _) rfl (by first | omega | (simp only [sA_same, sA_s, ud_s, Int.reduceEq, if_true, if_false, ite_true, ite_false, ↓reduceIte, and_true, true_and, eq_self, Int.add_zero, Int.reduceAdd]; omega)) rfl ?_
        refine v_iconst (n := 79) xB_168 dX11_goRun_78 ⟨by decide, by decide⟩ rfl ?_
        refine v_ic_ne_n (n := 82) xB_168 dX11_goRun_79 (by decide) rfl (by first | omega | (simp only [sA_same, sA_s, ud_s, Int.reduceEq, if_true, if_false, ite_true, ite_false, ↓reduceIte, and_true, true_and, eq_self, Int.add_zero, Int.reduceAdd]; omega)) ?_
        refine v_iload (n := 84) xB_168 dX11_goRun_82 rfl rfl ?_
        refine v_goto (t := 88) xB_168 dX11_goRun_84 (by decide) rfl ?_
        refine v_istore6 (n := 90) xB_168 dX11_goRun_88 rfl rfl ?_
        refine v_aload_n (n := 91) xB_168 dX11_goRun_90 rfl rfl ?_
        refine v_gf_s (n := 94) (kz := 1) xB_168 dX11_goRun_91 xO_168 fl_11_13 fg_11_1 (sh_81 _ _ _) rfl st_81_1 rfl ?_
        refine v_iload_n (n := 95) xB_168 dX11_goRun_94 rfl rfl ?_
        refine v_iaload (n := 96) (lz := 5) xB_168 dX11_goRun_95 (sh_82 _ _ _) rfl (by first | omega | (simp only [sA_same, sA_s, ud_s, Int.reduceEq, if_true, if_false, ite_true, ite_false, ↓reduceIte, and_true, true_and, eq_self, Int.add_zero, Int.reduceAdd]; omega)) rfl ?_
        refine v_iconst (n := 97) xB_168 dX11_goRun_96 ⟨by decide, by decide⟩ rfl ?_
        refine v_ic_ne_n (n := 100) xB_168 dX11_goRun_97 (by decide) rfl (by first | omega | (simp only [sA_same, sA_s, ud_s, Int.reduceEq, if_true, if_false, ite_true, ite_false, ↓reduceIte, and_true, true_and, eq_self, Int.add_zero, Int.reduceAdd]; omega)) ?_
        refine v_iinc4 (n := 103) xB_168 dX11_goRun_100 rfl (by first | omega | (simp only [sA_same, sA_s, ud_s, Int.reduceEq, if_true, if_false, ite_true, ite_false, ↓reduceIte, and_true, true_and, eq_self, Int.add_zero, Int.reduceAdd]; omega)) rfl ?_
        refine v_goto (t := 109) xB_168 dX11_goRun_103 (by decide) rfl ?_
        refine v_aload_n (n := 110) xB_168 dX11_goRun_109 rfl rfl ?_
        refine v_gf_s (n := 113) (kz := 1) xB_168 dX11_goRun_110 xO_168 fl_11_13 fg_11_1 (sh_81 _ _ _) rfl st_81_1 rfl ?_
        refine v_iload_n (n := 114) xB_168 dX11_goRun_113 rfl rfl ?_
        refine v_iaload (n := 115) (lz := 5) xB_168 dX11_goRun_114 (sh_82 _ _ _) rfl (by first | omega | (simp only [sA_same, sA_s, ud_s, Int.reduceEq, if_true, if_false, ite_true, ite_false, ↓reduceIte, and_true, true_and, eq_self, Int.add_zero, Int.reduceAdd]; omega)) rfl ?_
        refine v_iconst (n := 116) xB_168 dX11_goRun_115 ⟨by decide, by decide⟩ rfl ?_
        refine v_ic_eq_n (n := 119) xB_168 dX11_goRun_116 (by decide) rfl (by first | omega | (simp only [sA_same, sA_s, ud_s, Int.reduceEq, if_true, if_false, ite_true, ite_false, ↓reduceIte, and_true, true_and, eq_self, Int.add_zero, Int.reduceAdd]; omega)) ?_
        refine v_aload_n (n := 120) xB_168 dX11_goRun_119 rfl rfl ?_
        refine v_gf_s (n := 123) (kz := 1) xB_168 dX11_goRun_120 xO_168 fl_11_13 fg_11_1 (sh_81 _ _ _) rfl st_81_1 rfl ?_
        refine v_iload_n (n := 124) xB_168 dX11_goRun_123 rfl rfl ?_
        refine v_iaload (n := 125) (lz := 5) xB_168 dX11_goRun_124 (sh_82 _ _ _) rfl (by first | omega | (simp only [sA_same, sA_s, ud_s, Int.reduceEq, if_true, if_false, ite_true, ite_false, ↓reduceIte, and_true, true_and, eq_self, Int.add_zero, Int.reduceAdd]; omega)) rfl ?_
        refine v_bipush (n := 127) xB_168 dX11_goRun_125 ⟨by decide, by decide⟩ rfl ?_
        refine v_ic_ne_y (t := 152) xB_168 dX11_goRun_127 (by decide) rfl (by first | omega | (simp only [sA_same, sA_s, ud_s, Int.reduceEq, if_true, if_false, ite_true, ite_false, ↓reduceIte, and_true, true_and, eq_self, Int.add_zero, Int.reduceAdd]; omega)) ?_
        refine v_iconst (n := 153) xB_168 dX11_goRun_152 ⟨by decide, by decide⟩ rfl ?_
        refine v_istore7 (n := 155) xB_168 dX11_goRun_153 rfl rfl ?_
        refine v_iload (n := 157) xB_168 dX11_goRun_155 rfl rfl ?_
        refine v_if_ne_n (n := 160) xB_168 dX11_goRun_157 (by decide) rfl (by decide) ?_
        refine v_aload_n (n := 161) xB_168 dX11_goRun_160 rfl rfl ?_
        refine v_iload (n := 163) xB_168 dX11_goRun_161 rfl rfl ?_
        refine v_aload_n (n := 164) xB_168 dX11_goRun_163 rfl rfl ?_
        refine v_iload_n (n := 165) xB_168 dX11_goRun_164 rfl rfl ?_
        refine v_iload (n := 167) xB_168 dX11_goRun_165 rfl rfl ?_
        refine v_call_v (n := 170) xB_168 dX11_goRun_167 xO_168 iv_11_334 rfl (sh_81 _ _ _) rfl rfl rfl ?_
        refine c_told1 (by omega) (by first | omega | (simp only [sA_same, sA_s, ud_s, Int.reduceEq, if_true, if_false, ite_true, ite_false, ↓reduceIte, and_true, true_and, eq_self, Int.add_zero, Int.reduceAdd]; omega)) (by first | omega | (simp only [sA_same, sA_s, ud_s, Int.reduceEq, if_true, if_false, ite_true, ite_false, ↓reduceIte, and_true, true_and, eq_self, Int.add_zero, Int.reduceAdd]; omega)) (by first | omega | (simp only [sA_same, sA_s, ud_s, Int.reduceEq, if_true, if_false, ite_true, ite_false, ↓reduceIte, and_true, true_and, eq_self, Int.add_zero, Int.reduceAdd]; omega)) (by simp (disch := omega) only [sA_ne]; exact hr) ?_
        refine v_aload_n (n := 171) xB_168 dX11_goRun_170 rfl rfl ?_
        refine v_iload_n (n := 172) xB_168 dX11_goRun_171 rfl rfl ?_
        refine v_iconst (n := 173) xB_168 dX11_goRun_172 ⟨by decide, by decide⟩ rfl ?_
        refine v_iload (n := 175) xB_168 dX11_goRun_173 rfl rfl ?_
        refine v_iload_n (n := 176) xB_168 dX11_goRun_175 rfl rfl ?_
        refine v_aload_n (n := 177) xB_168 dX11_goRun_176 rfl rfl ?_
        refine v_gf_i (n := 180) (kz := 29) xB_168 dX11_goRun_177 xO_168 fl_11_99 fg_11_29 rfl (sh_81 _ _ _) rfl rfl ?_
        refine v_call_v (n := 183) xB_168 dX11_goRun_180 xO_168 iv_11_327 rfl (sh_81 _ _ _) rfl rfl rfl ?_
        refine c_anyHolds (by omega) (by first | omega | (simp only [sA_same, sA_s, ud_s, Int.reduceEq, if_true, if_false, ite_true, ite_false, ↓reduceIte, and_true, true_and, eq_self, Int.add_zero, Int.reduceAdd]; omega)) (of_eq' (JR_fr (m := m) (by simp (disch := omega) only [sA_ne]) ⟨by simp (disch := omega) only [sA_ne], by simp (disch := omega) only [sA_ne], by simp (disch := omega) only [sA_ne], by simp (disch := omega) only [sA_ne], by simp (disch := omega) only [sA_ne]⟩ _ _) hJ) (by first | omega | (simp only [sA_same, sA_s, ud_s, Int.reduceEq, if_true, if_false, ite_true, ite_false, ↓reduceIte, and_true, true_and, eq_self, Int.add_zero, Int.reduceAdd]; omega)) (by first | omega | (simp only [sA_same, sA_s, ud_s, Int.reduceEq, if_true, if_false, ite_true, ite_false, ↓reduceIte, and_true, true_and, eq_self, Int.add_zero, Int.reduceAdd]; omega)) (by first | omega | (simp only [sA_same, sA_s, ud_s, Int.reduceEq, if_true, if_false, ite_true, ite_false, ↓reduceIte, and_true, true_and, eq_self, Int.add_zero, Int.reduceAdd]; omega)) (fun f3 g2 => ?_) (fun f3 g3 => ?_)
        · (try simp (disch := omega) only [sA_same, sA_ne, sA_sA, sA_sr, sB_s, ud_eq, ud_ne, ud_ud, ud_sr, uB_s, Int.add_zero, Int.reduceAdd] at g2)
          (try simp (disch := omega) only [sA_same, sA_ne, sA_sA, sA_sr, sB_s, ud_eq, ud_ne, ud_ud, ud_sr, uB_s, Int.add_zero, Int.reduceAdd])
          refine v_call_v (n := 186) xB_168 dX11_goRun_183 xO_168 iv_11_338 rfl (sh_81 _ _ _) rfl rfl rfl ?_
          refine c_prints (by omega) (by first | omega | (simp only [sA_same, sA_s, ud_s, Int.reduceEq, if_true, if_false, ite_true, ite_false, ↓reduceIte, and_true, true_and, eq_self, Int.add_zero, Int.reduceAdd]; omega)) (mnmo (by omega) (hr _).1) (by decide) (by first | omega | (simp only [sA_same, sA_s, ud_s, Int.reduceEq, if_true, if_false, ite_true, ite_false, ↓reduceIte, and_true, true_and, eq_self, Int.add_zero, Int.reduceAdd]; omega)) (by simp (disch := omega) only [sA_ne, sA_same]; assumption) (by simp (disch := omega) only [sA_ne, sA_same]; assumption) (fun sd1 dn1 hdn1 hsd1 hpk1 => ?_)
          (try simp (disch := omega) only [sA_same, sA_ne, sA_sA, sA_sr, sB_s, ud_eq, ud_ne, ud_ud, ud_sr, uB_s, Int.add_zero, Int.reduceAdd])
          refine v_iinc5 (n := 189) xB_168 dX11_goRun_186 rfl (by first | omega | (simp only [sA_same, sA_s, ud_s, Int.reduceEq, if_true, if_false, ite_true, ite_false, ↓reduceIte, and_true, true_and, eq_self, Int.add_zero, Int.reduceAdd]; omega)) rfl ?_
          refine v_aload_n (n := 190) xB_168 dX11_goRun_189 rfl rfl ?_
          refine v_iload (n := 192) xB_168 dX11_goRun_190 rfl rfl ?_
          refine v_iload_n (n := 193) xB_168 dX11_goRun_192 rfl rfl ?_
          refine v_call_v (n := 196) xB_168 dX11_goRun_193 xO_168 iv_11_342 rfl (sh_81 _ _ _) rfl rfl rfl ?_
          refine c_putsOut (by omega) (by first | omega | (simp only [sA_same, sA_s, ud_s, Int.reduceEq, if_true, if_false, ite_true, ite_false, ↓reduceIte, and_true, true_and, eq_self, Int.add_zero, Int.reduceAdd]; omega)) (by first | omega | (simp only [sA_same, sA_s, ud_s, Int.reduceEq, if_true, if_false, ite_true, ite_false, ↓reduceIte, and_true, true_and, eq_self, Int.add_zero, Int.reduceAdd]; omega)) (by first | omega | (simp only [sA_same, sA_s, ud_s, Int.reduceEq, if_true, if_false, ite_true, ite_false, ↓reduceIte, and_true, true_and, eq_self, Int.add_zero, Int.reduceAdd]; omega)) (by first | omega | (simp only [sA_same, sA_s, ud_s, Int.reduceEq, if_true, if_false, ite_true, ite_false, ↓reduceIte, and_true, true_and, eq_self, Int.add_zero, Int.reduceAdd]; omega)) (by simp (disch := omega) only [sA_ne, sA_same]; assumption) (by simp (disch := omega) only [sA_ne, sA_same]; assumption) (by simp (disch := omega) only [sA_ne, sA_same]; assumption) (by simp (disch := omega) only [sA_ne, sA_same]; assumption) (fun sd2 dn2 od2 on2 hdn2 hsd2 hon2 hod2 hpk2 hpo2 => ?_)
          (try simp (disch := omega) only [sA_same, sA_ne, sA_sA, sA_sr, sB_s, ud_eq, ud_ne, ud_ud, ud_sr, uB_s, Int.add_zero, Int.reduceAdd])
          refine v_aload_n (n := 197) xB_168 dX11_goRun_196 rfl rfl ?_
          refine v_iload_n (n := 198) xB_168 dX11_goRun_197 rfl rfl ?_
          refine v_iload (n := 200) xB_168 dX11_goRun_198 rfl rfl ?_
          refine v_iload_n (n := 201) xB_168 dX11_goRun_200 rfl rfl ?_
          refine v_call_v (n := 204) xB_168 dX11_goRun_201 xO_168 iv_11_331 rfl (sh_81 _ _ _) rfl rfl rfl ?_
          refine c_goesOn (by omega) (by first | omega | (simp only [sA_same, sA_s, ud_s, Int.reduceEq, if_true, if_false, ite_true, ite_false, ↓reduceIte, and_true, true_and, eq_self, Int.add_zero, Int.reduceAdd]; omega)) (of_eq' (JR_fr (m := m) (by simp (disch := omega) only [sA_ne]) ⟨by simp (disch := omega) only [sA_ne], by simp (disch := omega) only [sA_ne], by simp (disch := omega) only [sA_ne], by simp (disch := omega) only [sA_ne], by simp (disch := omega) only [sA_ne]⟩ _ _) hJ) (by first | omega | (simp only [sA_same, sA_s, ud_s, Int.reduceEq, if_true, if_false, ite_true, ite_false, ↓reduceIte, and_true, true_and, eq_self, Int.add_zero, Int.reduceAdd]; omega)) (by first | omega | (simp only [sA_same, sA_s, ud_s, Int.reduceEq, if_true, if_false, ite_true, ite_false, ↓reduceIte, and_true, true_and, eq_self, Int.add_zero, Int.reduceAdd]; omega)) (fun f5 => ?_)
          (try simp (disch := omega) only [sA_same, sA_ne, sA_sA, sA_sr, sB_s, ud_eq, ud_ne, ud_ud, ud_sr, uB_s, Int.add_zero, Int.reduceAdd])
          refine v_istore5 (n := 206) xB_168 dX11_goRun_204 rfl rfl ?_
          refine v_goto (t := 33) xB_168 dX11_goRun_206 (by decide) rfl ?_
          have hd0 : dryF (m 82 t) (m 83 t) n = false := by unfold dryF; exact decide_eq_false (by omega)
          rw [hd0, if_neg (by decide)] at hpg1 hpr1
          simp (disch := omega) only [sA_same, sA_ne, sA_sA, sA_sr, sB_s, ud_eq, ud_ne, ud_ud, ud_sr, uB_s, Int.add_zero, Int.reduceAdd] at hpk2 hpo2
          first | rw [show decide ((1 : Int) = 1) = true from rfl] at hpk1 | rw [show decide ((0 : Int) = 1) = false from rfl] at hpk1
          simp (disch := omega) only [sA_same, sA_ne, sA_sA, sA_sr, sB_s, ud_eq, ud_ne, ud_ud, ud_sr, uB_s, Int.add_zero, Int.reduceAdd] at hpk1
          rw [← hpr1, ← Int.natCast_succ]
          have hs1 : spF (m 82 t) (m 83 t) CL n = false := by unfold spF; exact decide_eq_false (by omega)
          have hix : (if m 82 t = 4 then m 81 22 - 1 - (n : Int) else n) = low := by first | rw [if_pos hk, hs0] | rw [if_neg (by omega), hs0]
          refine ih (n + 1) _ _ _ _ _ _ _ _ _ _ _ (by omega) (hgo hs1) (by unfold qF; rw [hpg1]) ?_ ?_ hdn2 hsd2 hon2 hod2 ?_ ?_
          · first | (rw [if_pos hk]; omega) | (rw [if_neg (by omega)]; omega)
          · first | (rw [if_pos hk]; omega) | (rw [if_neg (by omega)]; omega)
          · intro s h1 h2
            rw [hpk2 s (by omega), hpk1, if_neg (by omega)]
            exact hl s (by omega) (by omega)
          · intro i hi
            rw [hpo2]
            by_cases hx : (i : Int) = n
            · have hi2 : i = n := by omega
              subst hi2
              rw [if_pos rfl, hpk1, if_pos rfl, hl _ (by omega) (by omega)]
              unfold oF
              rw [hd0, if_neg (by decide), ← hpg, hix]
              first | rw [show anyW CL 3 pg (m 82 t) (m 83 t) i = true from by assumption] | rw [show anyW CL 3 pg (m 82 t) (m 83 t) i = false from by assumption]
              rfl
            · rw [if_neg hx]
              exact ho i (by omega)
        · (try simp (disch := omega) only [sA_same, sA_ne, sA_sA, sA_sr, sB_s, ud_eq, ud_ne, ud_ud, ud_sr, uB_s, Int.add_zero, Int.reduceAdd] at g3)
          (try simp (disch := omega) only [sA_same, sA_ne, sA_sA, sA_sr, sB_s, ud_eq, ud_ne, ud_ud, ud_sr, uB_s, Int.add_zero, Int.reduceAdd])
          refine v_call_v (n := 186) xB_168 dX11_goRun_183 xO_168 iv_11_338 rfl (sh_81 _ _ _) rfl rfl rfl ?_
          refine c_prints (by omega) (by first | omega | (simp only [sA_same, sA_s, ud_s, Int.reduceEq, if_true, if_false, ite_true, ite_false, ↓reduceIte, and_true, true_and, eq_self, Int.add_zero, Int.reduceAdd]; omega)) (mnmo (by omega) (hr _).1) (by decide) (by first | omega | (simp only [sA_same, sA_s, ud_s, Int.reduceEq, if_true, if_false, ite_true, ite_false, ↓reduceIte, and_true, true_and, eq_self, Int.add_zero, Int.reduceAdd]; omega)) (by simp (disch := omega) only [sA_ne, sA_same]; assumption) (by simp (disch := omega) only [sA_ne, sA_same]; assumption) (fun sd1 dn1 hdn1 hsd1 hpk1 => ?_)
          (try simp (disch := omega) only [sA_same, sA_ne, sA_sA, sA_sr, sB_s, ud_eq, ud_ne, ud_ud, ud_sr, uB_s, Int.add_zero, Int.reduceAdd])
          refine v_iinc5 (n := 189) xB_168 dX11_goRun_186 rfl (by first | omega | (simp only [sA_same, sA_s, ud_s, Int.reduceEq, if_true, if_false, ite_true, ite_false, ↓reduceIte, and_true, true_and, eq_self, Int.add_zero, Int.reduceAdd]; omega)) rfl ?_
          refine v_aload_n (n := 190) xB_168 dX11_goRun_189 rfl rfl ?_
          refine v_iload (n := 192) xB_168 dX11_goRun_190 rfl rfl ?_
          refine v_iload_n (n := 193) xB_168 dX11_goRun_192 rfl rfl ?_
          refine v_call_v (n := 196) xB_168 dX11_goRun_193 xO_168 iv_11_342 rfl (sh_81 _ _ _) rfl rfl rfl ?_
          refine c_putsOut (by omega) (by first | omega | (simp only [sA_same, sA_s, ud_s, Int.reduceEq, if_true, if_false, ite_true, ite_false, ↓reduceIte, and_true, true_and, eq_self, Int.add_zero, Int.reduceAdd]; omega)) (by first | omega | (simp only [sA_same, sA_s, ud_s, Int.reduceEq, if_true, if_false, ite_true, ite_false, ↓reduceIte, and_true, true_and, eq_self, Int.add_zero, Int.reduceAdd]; omega)) (by first | omega | (simp only [sA_same, sA_s, ud_s, Int.reduceEq, if_true, if_false, ite_true, ite_false, ↓reduceIte, and_true, true_and, eq_self, Int.add_zero, Int.reduceAdd]; omega)) (by first | omega | (simp only [sA_same, sA_s, ud_s, Int.reduceEq, if_true, if_false, ite_true, ite_false, ↓reduceIte, and_true, true_and, eq_self, Int.add_zero, Int.reduceAdd]; omega)) (by simp (disch := omega) only [sA_ne, sA_same]; assumption) (by simp (disch := omega) only [sA_ne, sA_same]; assumption) (by simp (disch := omega) only [sA_ne, sA_same]; assumption) (by simp (disch := omega) only [sA_ne, sA_same]; assumption) (fun sd2 dn2 od2 on2 hdn2 hsd2 hon2 hod2 hpk2 hpo2 => ?_)
          (try simp (disch := omega) only [sA_same, sA_ne, sA_sA, sA_sr, sB_s, ud_eq, ud_ne, ud_ud, ud_sr, uB_s, Int.add_zero, Int.reduceAdd])
          refine v_aload_n (n := 197) xB_168 dX11_goRun_196 rfl rfl ?_
          refine v_iload_n (n := 198) xB_168 dX11_goRun_197 rfl rfl ?_
          refine v_iload (n := 200) xB_168 dX11_goRun_198 rfl rfl ?_
          refine v_iload_n (n := 201) xB_168 dX11_goRun_200 rfl rfl ?_
          refine v_call_v (n := 204) xB_168 dX11_goRun_201 xO_168 iv_11_331 rfl (sh_81 _ _ _) rfl rfl rfl ?_
          refine c_goesOn (by omega) (by first | omega | (simp only [sA_same, sA_s, ud_s, Int.reduceEq, if_true, if_false, ite_true, ite_false, ↓reduceIte, and_true, true_and, eq_self, Int.add_zero, Int.reduceAdd]; omega)) (of_eq' (JR_fr (m := m) (by simp (disch := omega) only [sA_ne]) ⟨by simp (disch := omega) only [sA_ne], by simp (disch := omega) only [sA_ne], by simp (disch := omega) only [sA_ne], by simp (disch := omega) only [sA_ne], by simp (disch := omega) only [sA_ne]⟩ _ _) hJ) (by first | omega | (simp only [sA_same, sA_s, ud_s, Int.reduceEq, if_true, if_false, ite_true, ite_false, ↓reduceIte, and_true, true_and, eq_self, Int.add_zero, Int.reduceAdd]; omega)) (by first | omega | (simp only [sA_same, sA_s, ud_s, Int.reduceEq, if_true, if_false, ite_true, ite_false, ↓reduceIte, and_true, true_and, eq_self, Int.add_zero, Int.reduceAdd]; omega)) (fun f5 => ?_)
          (try simp (disch := omega) only [sA_same, sA_ne, sA_sA, sA_sr, sB_s, ud_eq, ud_ne, ud_ud, ud_sr, uB_s, Int.add_zero, Int.reduceAdd])
          refine v_istore5 (n := 206) xB_168 dX11_goRun_204 rfl rfl ?_
          refine v_goto (t := 33) xB_168 dX11_goRun_206 (by decide) rfl ?_
          have hd0 : dryF (m 82 t) (m 83 t) n = false := by unfold dryF; exact decide_eq_false (by omega)
          rw [hd0, if_neg (by decide)] at hpg1 hpr1
          simp (disch := omega) only [sA_same, sA_ne, sA_sA, sA_sr, sB_s, ud_eq, ud_ne, ud_ud, ud_sr, uB_s, Int.add_zero, Int.reduceAdd] at hpk2 hpo2
          first | rw [show decide ((1 : Int) = 1) = true from rfl] at hpk1 | rw [show decide ((0 : Int) = 1) = false from rfl] at hpk1
          simp (disch := omega) only [sA_same, sA_ne, sA_sA, sA_sr, sB_s, ud_eq, ud_ne, ud_ud, ud_sr, uB_s, Int.add_zero, Int.reduceAdd] at hpk1
          rw [← hpr1, ← Int.natCast_succ]
          have hs1 : spF (m 82 t) (m 83 t) CL n = false := by unfold spF; exact decide_eq_false (by omega)
          have hix : (if m 82 t = 4 then m 81 22 - 1 - (n : Int) else n) = low := by first | rw [if_pos hk, hs0] | rw [if_neg (by omega), hs0]
          refine ih (n + 1) _ _ _ _ _ _ _ _ _ _ _ (by omega) (hgo hs1) (by unfold qF; rw [hpg1]) ?_ ?_ hdn2 hsd2 hon2 hod2 ?_ ?_
          · first | (rw [if_pos hk]; omega) | (rw [if_neg (by omega)]; omega)
          · first | (rw [if_pos hk]; omega) | (rw [if_neg (by omega)]; omega)
          · intro s h1 h2
            rw [hpk2 s (by omega), hpk1, if_neg (by omega)]
            exact hl s (by omega) (by omega)
          · intro i hi
            rw [hpo2]
            by_cases hx : (i : Int) = n
            · have hi2 : i = n := by omega
              subst hi2
              rw [if_pos rfl, hpk1, if_pos rfl, hl _ (by omega) (by omega)]
              unfold oF
              rw [hd0, if_neg (by decide), ← hpg, hix]
              first | rw [show anyW CL 3 pg (m 82 t) (m 83 t) i = true from by assumption] | rw [show anyW CL 3 pg (m 82 t) (m 83 t) i = false from by assumption]
              rfl
            · rw [if_neg hx]
              exact ho i (by omega)
    · have hs0 : top = n := by rw [htop, if_neg (by omega)]
      have ht0 : low = m 81 22 - 1 := by rw [hlow, if_neg (by omega)]
      refine v_iload (n := 35) xB_168 dX11_goRun_33 rfl rfl ?_
      refine v_aload_n (n := 36) xB_168 dX11_goRun_35 rfl rfl ?_
      refine v_iload_n (n := 37) xB_168 dX11_goRun_36 rfl rfl ?_
      refine v_call_v (n := 40) xB_168 dX11_goRun_37 xO_168 iv_11_289 rfl (sh_81 _ _ _) rfl rfl rfl ?_
      refine c_last (by omega) (by first | omega | (simp only [sA_same, sA_s, ud_s, Int.reduceEq, if_true, if_false, ite_true, ite_false, ↓reduceIte, and_true, true_and, eq_self, Int.add_zero, Int.reduceAdd]; omega)) (of_eq' (JR_fr (m := m) (by simp (disch := omega) only [sA_ne]) ⟨by simp (disch := omega) only [sA_ne], by simp (disch := omega) only [sA_ne], by simp (disch := omega) only [sA_ne], by simp (disch := omega) only [sA_ne], by simp (disch := omega) only [sA_ne]⟩ _ _) hJ) ?_
      refine v_ic_gt (t := 209) (n := 43) xB_168 dX11_goRun_40 (by decide) rfl rfl (fun g1 => ?_) (fun g1 => ?_)
      · (try simp (disch := omega) only [sA_same, sA_ne, sA_sA, sA_sr, sB_s, ud_eq, ud_ne, ud_ud, ud_sr, uB_s, Int.add_zero, Int.reduceAdd] at g1)
        have hs : n = T := hst (by unfold spF; exact decide_eq_true (by omega))
        subst hs
        exact hE _ _ _ _ _ _ _ _ _ _ _ htop hlow hdn hsd hon hod hl ho
      · (try simp (disch := omega) only [sA_same, sA_ne, sA_sA, sA_sr, sB_s, ud_eq, ud_ne, ud_ud, ud_sr, uB_s, Int.add_zero, Int.reduceAdd] at g1)
        refine v_iload_n (n := 44) xB_168 dX11_goRun_43 rfl rfl ?_
        refine v_iload (n := 46) xB_168 dX11_goRun_44 rfl rfl ?_
        refine v_ic_gt_n (n := 49) xB_168 dX11_goRun_46 (by decide) rfl (by first | omega | (simp only [sA_same, sA_s, ud_s, Int.reduceEq, if_true, if_false, ite_true, ite_false, ↓reduceIte, and_true, true_and, eq_self, Int.add_zero, Int.reduceAdd]; omega)) ?_
        refine v_aload_n (n := 50) xB_168 dX11_goRun_49 rfl rfl ?_
        refine v_gf_s (n := 53) (kz := 1) xB_168 dX11_goRun_50 xO_168 fl_11_13 fg_11_1 (sh_81 _ _ _) rfl st_81_1 rfl ?_
        refine v_iload_n (n := 54) xB_168 dX11_goRun_53 rfl rfl ?_
        refine v_iaload (n := 55) (lz := 5) xB_168 dX11_goRun_54 (sh_82 _ _ _) rfl (by first | omega | (simp only [sA_same, sA_s, ud_s, Int.reduceEq, if_true, if_false, ite_true, ite_false, ↓reduceIte, and_true, true_and, eq_self, Int.add_zero, Int.reduceAdd]; omega)) rfl ?_
        refine v_iconst (n := 56) xB_168 dX11_goRun_55 ⟨by decide, by decide⟩ rfl ?_
        refine v_ic_ne_n (n := 59) xB_168 dX11_goRun_56 (by decide) rfl (by first | omega | (simp only [sA_same, sA_s, ud_s, Int.reduceEq, if_true, if_false, ite_true, ite_false, ↓reduceIte, and_true, true_and, eq_self, Int.add_zero, Int.reduceAdd]; omega)) ?_
        refine v_aload_n (n := 60) xB_168 dX11_goRun_59 rfl rfl ?_
        refine v_gf_i (n := 63) (kz := 29) xB_168 dX11_goRun_60 xO_168 fl_11_99 fg_11_29 rfl (sh_81 _ _ _) rfl rfl ?_
        refine v_aload_n (n := 64) xB_168 dX11_goRun_63 rfl rfl ?_
        refine v_gf_s (n := 67) (kz := 2) xB_168 dX11_goRun_64 xO_168 fl_11_17 fg_11_2 (sh_81 _ _ _) rfl st_81_2 rfl ?_
        refine v_iload_n (n := 68) xB_168 dX11_goRun_67 rfl rfl ?_
        refine v_iaload (n := 69) (lz := 5) xB_168 dX11_goRun_68 (sh_83 _ _ _) rfl (by first | omega | (simp only [sA_same, sA_s, ud_s, Int.reduceEq, if_true, if_false, ite_true, ite_false, ↓reduceIte, and_true, true_and, eq_self, Int.add_zero, Int.reduceAdd]; omega)) rfl ?_
        refine v_ic_gt (t := 209) (n := 72) xB_168 dX11_goRun_69 (by decide) rfl rfl (fun g2 => ?_) (fun g2 => ?_)
        · (try simp (disch := omega) only [sA_same, sA_ne, sA_sA, sA_sr, sB_s, ud_eq, ud_ne, ud_ud, ud_sr, uB_s, Int.add_zero, Int.reduceAdd] at g2)
          have hs : n = T := hst (by unfold spF; exact decide_eq_true (by omega))
          subst hs
          exact hE _ _ _ _ _ _ _ _ _ _ _ htop hlow hdn hsd hon hod hl ho
        · (try simp (disch := omega) only [sA_same, sA_ne, sA_sA, sA_sr, sB_s, ud_eq, ud_ne, ud_ud, ud_sr, uB_s, Int.add_zero, Int.reduceAdd] at g2)
          refine v_aload_n (n := 73) xB_168 dX11_goRun_72 rfl rfl ?_
          refine v_gf_s (n := 76) (kz := 1) xB_168 dX11_goRun_73 xO_168 fl_11_13 fg_11_1 (sh_81 _ _ _) rfl st_81_1 rfl ?_
          refine v_iload_n (n := 77) xB_168 dX11_goRun_76 rfl rfl ?_
          refine v_iaload (n := 78) (lz := 5) xB_168 dX11_goRun_77 (sh_82 _ _ _) rfl (by first | omega | (simp only [sA_same, sA_s, ud_s, Int.reduceEq, if_true, if_false, ite_true, ite_false, ↓reduceIte, and_true, true_and, eq_self, Int.add_zero, Int.reduceAdd]; omega)) rfl ?_
          refine v_iconst (n := 79) xB_168 dX11_goRun_78 ⟨by decide, by decide⟩ rfl ?_
          refine v_ic_ne_y (t := 87) xB_168 dX11_goRun_79 (by decide) rfl (by first | omega | (simp only [sA_same, sA_s, ud_s, Int.reduceEq, if_true, if_false, ite_true, ite_false, ↓reduceIte, and_true, true_and, eq_self, Int.add_zero, Int.reduceAdd]; omega)) ?_
          refine v_iload_n (n := 88) xB_168 dX11_goRun_87 rfl rfl ?_
          refine v_istore6 (n := 90) xB_168 dX11_goRun_88 rfl rfl ?_
          refine v_aload_n (n := 91) xB_168 dX11_goRun_90 rfl rfl ?_
          refine v_gf_s (n := 94) (kz := 1) xB_168 dX11_goRun_91 xO_168 fl_11_13 fg_11_1 (sh_81 _ _ _) rfl st_81_1 rfl ?_
          refine v_iload_n (n := 95) xB_168 dX11_goRun_94 rfl rfl ?_
          refine v_iaload (n := 96) (lz := 5) xB_168 dX11_goRun_95 (sh_82 _ _ _) rfl (by first | omega | (simp only [sA_same, sA_s, ud_s, Int.reduceEq, if_true, if_false, ite_true, ite_false, ↓reduceIte, and_true, true_and, eq_self, Int.add_zero, Int.reduceAdd]; omega)) rfl ?_
          refine v_iconst (n := 97) xB_168 dX11_goRun_96 ⟨by decide, by decide⟩ rfl ?_
          refine v_ic_ne_y (t := 106) xB_168 dX11_goRun_97 (by decide) rfl (by first | omega | (simp only [sA_same, sA_s, ud_s, Int.reduceEq, if_true, if_false, ite_true, ite_false, ↓reduceIte, and_true, true_and, eq_self, Int.add_zero, Int.reduceAdd]; omega)) ?_
          refine v_iinc3 (n := 109) xB_168 dX11_goRun_106 rfl (by first | omega | (simp only [sA_same, sA_s, ud_s, Int.reduceEq, if_true, if_false, ite_true, ite_false, ↓reduceIte, and_true, true_and, eq_self, Int.add_zero, Int.reduceAdd]; omega)) rfl ?_
          refine v_aload_n (n := 110) xB_168 dX11_goRun_109 rfl rfl ?_
          refine v_gf_s (n := 113) (kz := 1) xB_168 dX11_goRun_110 xO_168 fl_11_13 fg_11_1 (sh_81 _ _ _) rfl st_81_1 rfl ?_
          refine v_iload_n (n := 114) xB_168 dX11_goRun_113 rfl rfl ?_
          refine v_iaload (n := 115) (lz := 5) xB_168 dX11_goRun_114 (sh_82 _ _ _) rfl (by first | omega | (simp only [sA_same, sA_s, ud_s, Int.reduceEq, if_true, if_false, ite_true, ite_false, ↓reduceIte, and_true, true_and, eq_self, Int.add_zero, Int.reduceAdd]; omega)) rfl ?_
          refine v_iconst (n := 116) xB_168 dX11_goRun_115 ⟨by decide, by decide⟩ rfl ?_
          refine v_ic_eq_n (n := 119) xB_168 dX11_goRun_116 (by decide) rfl (by first | omega | (simp only [sA_same, sA_s, ud_s, Int.reduceEq, if_true, if_false, ite_true, ite_false, ↓reduceIte, and_true, true_and, eq_self, Int.add_zero, Int.reduceAdd]; omega)) ?_
          refine v_aload_n (n := 120) xB_168 dX11_goRun_119 rfl rfl ?_
          refine v_gf_s (n := 123) (kz := 1) xB_168 dX11_goRun_120 xO_168 fl_11_13 fg_11_1 (sh_81 _ _ _) rfl st_81_1 rfl ?_
          refine v_iload_n (n := 124) xB_168 dX11_goRun_123 rfl rfl ?_
          refine v_iaload (n := 125) (lz := 5) xB_168 dX11_goRun_124 (sh_82 _ _ _) rfl (by first | omega | (simp only [sA_same, sA_s, ud_s, Int.reduceEq, if_true, if_false, ite_true, ite_false, ↓reduceIte, and_true, true_and, eq_self, Int.add_zero, Int.reduceAdd]; omega)) rfl ?_
          refine v_bipush (n := 127) xB_168 dX11_goRun_125 ⟨by decide, by decide⟩ rfl ?_
          refine v_ic_ne_y (t := 152) xB_168 dX11_goRun_127 (by decide) rfl (by first | omega | (simp only [sA_same, sA_s, ud_s, Int.reduceEq, if_true, if_false, ite_true, ite_false, ↓reduceIte, and_true, true_and, eq_self, Int.add_zero, Int.reduceAdd]; omega)) ?_
          refine v_iconst (n := 153) xB_168 dX11_goRun_152 ⟨by decide, by decide⟩ rfl ?_
          refine v_istore7 (n := 155) xB_168 dX11_goRun_153 rfl rfl ?_
          refine v_iload (n := 157) xB_168 dX11_goRun_155 rfl rfl ?_
          refine v_if_ne_n (n := 160) xB_168 dX11_goRun_157 (by decide) rfl (by decide) ?_
          refine v_aload_n (n := 161) xB_168 dX11_goRun_160 rfl rfl ?_
          refine v_iload (n := 163) xB_168 dX11_goRun_161 rfl rfl ?_
          refine v_aload_n (n := 164) xB_168 dX11_goRun_163 rfl rfl ?_
          refine v_iload_n (n := 165) xB_168 dX11_goRun_164 rfl rfl ?_
          refine v_iload (n := 167) xB_168 dX11_goRun_165 rfl rfl ?_
          refine v_call_v (n := 170) xB_168 dX11_goRun_167 xO_168 iv_11_334 rfl (sh_81 _ _ _) rfl rfl rfl ?_
          refine c_told1 (by omega) (by first | omega | (simp only [sA_same, sA_s, ud_s, Int.reduceEq, if_true, if_false, ite_true, ite_false, ↓reduceIte, and_true, true_and, eq_self, Int.add_zero, Int.reduceAdd]; omega)) (by first | omega | (simp only [sA_same, sA_s, ud_s, Int.reduceEq, if_true, if_false, ite_true, ite_false, ↓reduceIte, and_true, true_and, eq_self, Int.add_zero, Int.reduceAdd]; omega)) (by first | omega | (simp only [sA_same, sA_s, ud_s, Int.reduceEq, if_true, if_false, ite_true, ite_false, ↓reduceIte, and_true, true_and, eq_self, Int.add_zero, Int.reduceAdd]; omega)) (by simp (disch := omega) only [sA_ne]; exact hr) ?_
          refine v_aload_n (n := 171) xB_168 dX11_goRun_170 rfl rfl ?_
          refine v_iload_n (n := 172) xB_168 dX11_goRun_171 rfl rfl ?_
          refine v_iconst (n := 173) xB_168 dX11_goRun_172 ⟨by decide, by decide⟩ rfl ?_
          refine v_iload (n := 175) xB_168 dX11_goRun_173 rfl rfl ?_
          refine v_iload_n (n := 176) xB_168 dX11_goRun_175 rfl rfl ?_
          refine v_aload_n (n := 177) xB_168 dX11_goRun_176 rfl rfl ?_
          refine v_gf_i (n := 180) (kz := 29) xB_168 dX11_goRun_177 xO_168 fl_11_99 fg_11_29 rfl (sh_81 _ _ _) rfl rfl ?_
          refine v_call_v (n := 183) xB_168 dX11_goRun_180 xO_168 iv_11_327 rfl (sh_81 _ _ _) rfl rfl rfl ?_
          refine c_anyHolds (by omega) (by first | omega | (simp only [sA_same, sA_s, ud_s, Int.reduceEq, if_true, if_false, ite_true, ite_false, ↓reduceIte, and_true, true_and, eq_self, Int.add_zero, Int.reduceAdd]; omega)) (of_eq' (JR_fr (m := m) (by simp (disch := omega) only [sA_ne]) ⟨by simp (disch := omega) only [sA_ne], by simp (disch := omega) only [sA_ne], by simp (disch := omega) only [sA_ne], by simp (disch := omega) only [sA_ne], by simp (disch := omega) only [sA_ne]⟩ _ _) hJ) (by first | omega | (simp only [sA_same, sA_s, ud_s, Int.reduceEq, if_true, if_false, ite_true, ite_false, ↓reduceIte, and_true, true_and, eq_self, Int.add_zero, Int.reduceAdd]; omega)) (by first | omega | (simp only [sA_same, sA_s, ud_s, Int.reduceEq, if_true, if_false, ite_true, ite_false, ↓reduceIte, and_true, true_and, eq_self, Int.add_zero, Int.reduceAdd]; omega)) (by first | omega | (simp only [sA_same, sA_s, ud_s, Int.reduceEq, if_true, if_false, ite_true, ite_false, ↓reduceIte, and_true, true_and, eq_self, Int.add_zero, Int.reduceAdd]; omega)) (fun f3 g3 => ?_) (fun f3 g4 => ?_)
          · (try simp (disch := omega) only [sA_same, sA_ne, sA_sA, sA_sr, sB_s, ud_eq, ud_ne, ud_ud, ud_sr, uB_s, Int.add_zero, Int.reduceAdd] at g3)
            (try simp (disch := omega) only [sA_same, sA_ne, sA_sA, sA_sr, sB_s, ud_eq, ud_ne, ud_ud, ud_sr, uB_s, Int.add_zero, Int.reduceAdd])
            refine v_call_v (n := 186) xB_168 dX11_goRun_183 xO_168 iv_11_338 rfl (sh_81 _ _ _) rfl rfl rfl ?_
            refine c_prints (by omega) (by first | omega | (simp only [sA_same, sA_s, ud_s, Int.reduceEq, if_true, if_false, ite_true, ite_false, ↓reduceIte, and_true, true_and, eq_self, Int.add_zero, Int.reduceAdd]; omega)) (mnmo (by omega) (hr _).1) (by decide) (by first | omega | (simp only [sA_same, sA_s, ud_s, Int.reduceEq, if_true, if_false, ite_true, ite_false, ↓reduceIte, and_true, true_and, eq_self, Int.add_zero, Int.reduceAdd]; omega)) (by simp (disch := omega) only [sA_ne, sA_same]; assumption) (by simp (disch := omega) only [sA_ne, sA_same]; assumption) (fun sd1 dn1 hdn1 hsd1 hpk1 => ?_)
            (try simp (disch := omega) only [sA_same, sA_ne, sA_sA, sA_sr, sB_s, ud_eq, ud_ne, ud_ud, ud_sr, uB_s, Int.add_zero, Int.reduceAdd])
            refine v_iinc5 (n := 189) xB_168 dX11_goRun_186 rfl (by first | omega | (simp only [sA_same, sA_s, ud_s, Int.reduceEq, if_true, if_false, ite_true, ite_false, ↓reduceIte, and_true, true_and, eq_self, Int.add_zero, Int.reduceAdd]; omega)) rfl ?_
            refine v_aload_n (n := 190) xB_168 dX11_goRun_189 rfl rfl ?_
            refine v_iload (n := 192) xB_168 dX11_goRun_190 rfl rfl ?_
            refine v_iload_n (n := 193) xB_168 dX11_goRun_192 rfl rfl ?_
            refine v_call_v (n := 196) xB_168 dX11_goRun_193 xO_168 iv_11_342 rfl (sh_81 _ _ _) rfl rfl rfl ?_
            refine c_putsOut (by omega) (by first | omega | (simp only [sA_same, sA_s, ud_s, Int.reduceEq, if_true, if_false, ite_true, ite_false, ↓reduceIte, and_true, true_and, eq_self, Int.add_zero, Int.reduceAdd]; omega)) (by first | omega | (simp only [sA_same, sA_s, ud_s, Int.reduceEq, if_true, if_false, ite_true, ite_false, ↓reduceIte, and_true, true_and, eq_self, Int.add_zero, Int.reduceAdd]; omega)) (by first | omega | (simp only [sA_same, sA_s, ud_s, Int.reduceEq, if_true, if_false, ite_true, ite_false, ↓reduceIte, and_true, true_and, eq_self, Int.add_zero, Int.reduceAdd]; omega)) (by first | omega | (simp only [sA_same, sA_s, ud_s, Int.reduceEq, if_true, if_false, ite_true, ite_false, ↓reduceIte, and_true, true_and, eq_self, Int.add_zero, Int.reduceAdd]; omega)) (by simp (disch := omega) only [sA_ne, sA_same]; assumption) (by simp (disch := omega) only [sA_ne, sA_same]; assumption) (by simp (disch := omega) only [sA_ne, sA_same]; assumption) (by simp (disch := omega) only [sA_ne, sA_same]; assumption) (fun sd2 dn2 od2 on2 hdn2 hsd2 hon2 hod2 hpk2 hpo2 => ?_)
            (try simp (disch := omega) only [sA_same, sA_ne, sA_sA, sA_sr, sB_s, ud_eq, ud_ne, ud_ud, ud_sr, uB_s, Int.add_zero, Int.reduceAdd])
            refine v_aload_n (n := 197) xB_168 dX11_goRun_196 rfl rfl ?_
            refine v_iload_n (n := 198) xB_168 dX11_goRun_197 rfl rfl ?_
            refine v_iload (n := 200) xB_168 dX11_goRun_198 rfl rfl ?_
            refine v_iload_n (n := 201) xB_168 dX11_goRun_200 rfl rfl ?_
            refine v_call_v (n := 204) xB_168 dX11_goRun_201 xO_168 iv_11_331 rfl (sh_81 _ _ _) rfl rfl rfl ?_
            refine c_goesOn (by omega) (by first | omega | (simp only [sA_same, sA_s, ud_s, Int.reduceEq, if_true, if_false, ite_true, ite_false, ↓reduceIte, and_true, true_and, eq_self, Int.add_zero, Int.reduceAdd]; omega)) (of_eq' (JR_fr (m := m) (by simp (disch := omega) only [sA_ne]) ⟨by simp (disch := omega) only [sA_ne], by simp (disch := omega) only [sA_ne], by simp (disch := omega) only [sA_ne], by simp (disch := omega) only [sA_ne], by simp (disch := omega) only [sA_ne]⟩ _ _) hJ) (by first | omega | (simp only [sA_same, sA_s, ud_s, Int.reduceEq, if_true, if_false, ite_true, ite_false, ↓reduceIte, and_true, true_and, eq_self, Int.add_zero, Int.reduceAdd]; omega)) (by first | omega | (simp only [sA_same, sA_s, ud_s, Int.reduceEq, if_true, if_false, ite_true, ite_false, ↓reduceIte, and_true, true_and, eq_self, Int.add_zero, Int.reduceAdd]; omega)) (fun f5 => ?_)
            (try simp (disch := omega) only [sA_same, sA_ne, sA_sA, sA_sr, sB_s, ud_eq, ud_ne, ud_ud, ud_sr, uB_s, Int.add_zero, Int.reduceAdd])
            refine v_istore5 (n := 206) xB_168 dX11_goRun_204 rfl rfl ?_
            refine v_goto (t := 33) xB_168 dX11_goRun_206 (by decide) rfl ?_
            have hd0 : dryF (m 82 t) (m 83 t) n = false := by unfold dryF; exact decide_eq_false (by omega)
            rw [hd0, if_neg (by decide)] at hpg1 hpr1
            simp (disch := omega) only [sA_same, sA_ne, sA_sA, sA_sr, sB_s, ud_eq, ud_ne, ud_ud, ud_sr, uB_s, Int.add_zero, Int.reduceAdd] at hpk2 hpo2
            first | rw [show decide ((1 : Int) = 1) = true from rfl] at hpk1 | rw [show decide ((0 : Int) = 1) = false from rfl] at hpk1
            simp (disch := omega) only [sA_same, sA_ne, sA_sA, sA_sr, sB_s, ud_eq, ud_ne, ud_ud, ud_sr, uB_s, Int.add_zero, Int.reduceAdd] at hpk1
            rw [← hpr1, ← Int.natCast_succ]
            have hs1 : spF (m 82 t) (m 83 t) CL n = false := by unfold spF; exact decide_eq_false (by omega)
            have hix : (if m 82 t = 4 then m 81 22 - 1 - (n : Int) else n) = top := by first | rw [if_pos hk, hs0] | rw [if_neg (by omega), hs0]
            refine ih (n + 1) _ _ _ _ _ _ _ _ _ _ _ (by omega) (hgo hs1) (by unfold qF; rw [hpg1]) ?_ ?_ hdn2 hsd2 hon2 hod2 ?_ ?_
            · first | (rw [if_pos hk]; omega) | (rw [if_neg (by omega)]; omega)
            · first | (rw [if_pos hk]; omega) | (rw [if_neg (by omega)]; omega)
            · intro s h1 h2
              rw [hpk2 s (by omega), hpk1, if_neg (by omega)]
              exact hl s (by omega) (by omega)
            · intro i hi
              rw [hpo2]
              by_cases hx : (i : Int) = n
              · have hi2 : i = n := by omega
                subst hi2
                rw [if_pos rfl, hpk1, if_pos rfl, hl _ (by omega) (by omega)]
                unfold oF
                rw [hd0, if_neg (by decide), ← hpg, hix]
                first | rw [show anyW CL 3 pg (m 82 t) (m 83 t) i = true from by assumption] | rw [show anyW CL 3 pg (m 82 t) (m 83 t) i = false from by assumption]
                rfl
              · rw [if_neg hx]
                exact ho i (by omega)
          · (try simp (disch := omega) only [sA_same, sA_ne, sA_sA, sA_sr, sB_s, ud_eq, ud_ne, ud_ud, ud_sr, uB_s, Int.add_zero, Int.reduceAdd] at g4)
            (try simp (disch := omega) only [sA_same, sA_ne, sA_sA, sA_sr, sB_s, ud_eq, ud_ne, ud_ud, ud_sr, uB_s, Int.add_zero, Int.reduceAdd])
            refine v_call_v (n := 186) xB_168 dX11_goRun_183 xO_168 iv_11_338 rfl (sh_81 _ _ _) rfl rfl rfl ?_
            refine c_prints (by omega) (by first | omega | (simp only [sA_same, sA_s, ud_s, Int.reduceEq, if_true, if_false, ite_true, ite_false, ↓reduceIte, and_true, true_and, eq_self, Int.add_zero, Int.reduceAdd]; omega)) (mnmo (by omega) (hr _).1) (by decide) (by first | omega | (simp only [sA_same, sA_s, ud_s, Int.reduceEq, if_true, if_false, ite_true, ite_false, ↓reduceIte, and_true, true_and, eq_self, Int.add_zero, Int.reduceAdd]; omega)) (by simp (disch := omega) only [sA_ne, sA_same]; assumption) (by simp (disch := omega) only [sA_ne, sA_same]; assumption) (fun sd1 dn1 hdn1 hsd1 hpk1 => ?_)
            (try simp (disch := omega) only [sA_same, sA_ne, sA_sA, sA_sr, sB_s, ud_eq, ud_ne, ud_ud, ud_sr, uB_s, Int.add_zero, Int.reduceAdd])
            refine v_iinc5 (n := 189) xB_168 dX11_goRun_186 rfl (by first | omega | (simp only [sA_same, sA_s, ud_s, Int.reduceEq, if_true, if_false, ite_true, ite_false, ↓reduceIte, and_true, true_and, eq_self, Int.add_zero, Int.reduceAdd]; omega)) rfl ?_
            refine v_aload_n (n := 190) xB_168 dX11_goRun_189 rfl rfl ?_
            refine v_iload (n := 192) xB_168 dX11_goRun_190 rfl rfl ?_
            refine v_iload_n (n := 193) xB_168 dX11_goRun_192 rfl rfl ?_
            refine v_call_v (n := 196) xB_168 dX11_goRun_193 xO_168 iv_11_342 rfl (sh_81 _ _ _) rfl rfl rfl ?_
            refine c_putsOut (by omega) (by first | omega | (simp only [sA_same, sA_s, ud_s, Int.reduceEq, if_true, if_false, ite_true, ite_false, ↓reduceIte, and_true, true_and, eq_self, Int.add_zero, Int.reduceAdd]; omega)) (by first | omega | (simp only [sA_same, sA_s, ud_s, Int.reduceEq, if_true, if_false, ite_true, ite_false, ↓reduceIte, and_true, true_and, eq_self, Int.add_zero, Int.reduceAdd]; omega)) (by first | omega | (simp only [sA_same, sA_s, ud_s, Int.reduceEq, if_true, if_false, ite_true, ite_false, ↓reduceIte, and_true, true_and, eq_self, Int.add_zero, Int.reduceAdd]; omega)) (by first | omega | (simp only [sA_same, sA_s, ud_s, Int.reduceEq, if_true, if_false, ite_true, ite_false, ↓reduceIte, and_true, true_and, eq_self, Int.add_zero, Int.reduceAdd]; omega)) (by simp (disch := omega) only [sA_ne, sA_same]; assumption) (by simp (disch := omega) only [sA_ne, sA_same]; assumption) (by simp (disch := omega) only [sA_ne, sA_same]; assumption) (by simp (disch := omega) only [sA_ne, sA_same]; assumption) (fun sd2 dn2 od2 on2 hdn2 hsd2 hon2 hod2 hpk2 hpo2 => ?_)
            (try simp (disch := omega) only [sA_same, sA_ne, sA_sA, sA_sr, sB_s, ud_eq, ud_ne, ud_ud, ud_sr, uB_s, Int.add_zero, Int.reduceAdd])
            refine v_aload_n (n := 197) xB_168 dX11_goRun_196 rfl rfl ?_
            refine v_iload_n (n := 198) xB_168 dX11_goRun_197 rfl rfl ?_
            refine v_iload (n := 200) xB_168 dX11_goRun_198 rfl rfl ?_
            refine v_iload_n (n := 201) xB_168 dX11_goRun_200 rfl rfl ?_
            refine v_call_v (n := 204) xB_168 dX11_goRun_201 xO_168 iv_11_331 rfl (sh_81 _ _ _) rfl rfl rfl ?_
            refine c_goesOn (by omega) (by first | omega | (simp only [sA_same, sA_s, ud_s, Int.reduceEq, if_true, if_false, ite_true, ite_false, ↓reduceIte, and_true, true_and, eq_self, Int.add_zero, Int.reduceAdd]; omega)) (of_eq' (JR_fr (m := m) (by simp (disch := omega) only [sA_ne]) ⟨by simp (disch := omega) only [sA_ne], by simp (disch := omega) only [sA_ne], by simp (disch := omega) only [sA_ne], by simp (disch := omega) only [sA_ne], by simp (disch := omega) only [sA_ne]⟩ _ _) hJ) (by first | omega | (simp only [sA_same, sA_s, ud_s, Int.reduceEq, if_true, if_false, ite_true, ite_false, ↓reduceIte, and_true, true_and, eq_self, Int.add_zero, Int.reduceAdd]; omega)) (by first | omega | (simp only [sA_same, sA_s, ud_s, Int.reduceEq, if_true, if_false, ite_true, ite_false, ↓reduceIte, and_true, true_and, eq_self, Int.add_zero, Int.reduceAdd]; omega)) (fun f5 => ?_)
            (try simp (disch := omega) only [sA_same, sA_ne, sA_sA, sA_sr, sB_s, ud_eq, ud_ne, ud_ud, ud_sr, uB_s, Int.add_zero, Int.reduceAdd])
            refine v_istore5 (n := 206) xB_168 dX11_goRun_204 rfl rfl ?_
            refine v_goto (t := 33) xB_168 dX11_goRun_206 (by decide) rfl ?_
            have hd0 : dryF (m 82 t) (m 83 t) n = false := by unfold dryF; exact decide_eq_false (by omega)
            rw [hd0, if_neg (by decide)] at hpg1 hpr1
            simp (disch := omega) only [sA_same, sA_ne, sA_sA, sA_sr, sB_s, ud_eq, ud_ne, ud_ud, ud_sr, uB_s, Int.add_zero, Int.reduceAdd] at hpk2 hpo2
            first | rw [show decide ((1 : Int) = 1) = true from rfl] at hpk1 | rw [show decide ((0 : Int) = 1) = false from rfl] at hpk1
            simp (disch := omega) only [sA_same, sA_ne, sA_sA, sA_sr, sB_s, ud_eq, ud_ne, ud_ud, ud_sr, uB_s, Int.add_zero, Int.reduceAdd] at hpk1
            rw [← hpr1, ← Int.natCast_succ]
            have hs1 : spF (m 82 t) (m 83 t) CL n = false := by unfold spF; exact decide_eq_false (by omega)
            have hix : (if m 82 t = 4 then m 81 22 - 1 - (n : Int) else n) = top := by first | rw [if_pos hk, hs0] | rw [if_neg (by omega), hs0]
            refine ih (n + 1) _ _ _ _ _ _ _ _ _ _ _ (by omega) (hgo hs1) (by unfold qF; rw [hpg1]) ?_ ?_ hdn2 hsd2 hon2 hod2 ?_ ?_
            · first | (rw [if_pos hk]; omega) | (rw [if_neg (by omega)]; omega)
            · first | (rw [if_pos hk]; omega) | (rw [if_neg (by omega)]; omega)
            · intro s h1 h2
              rw [hpk2 s (by omega), hpk1, if_neg (by omega)]
              exact hl s (by omega) (by omega)
            · intro i hi
              rw [hpo2]
              by_cases hx : (i : Int) = n
              · have hi2 : i = n := by omega
                subst hi2
                rw [if_pos rfl, hpk1, if_pos rfl, hl _ (by omega) (by omega)]
                unfold oF
                rw [hd0, if_neg (by decide), ← hpg, hix]
                first | rw [show anyW CL 3 pg (m 82 t) (m 83 t) i = true from by assumption] | rw [show anyW CL 3 pg (m 82 t) (m 83 t) i = false from by assumption]
                rfl
              · rw [if_neg hx]
                exact ho i (by omega)
    · have hs0 : top = n := by rw [htop, if_neg (by omega)]
      have ht0 : low = m 81 22 - 1 := by rw [hlow, if_neg (by omega)]
      refine v_iload (n := 35) xB_168 dX11_goRun_33 rfl rfl ?_
      refine v_aload_n (n := 36) xB_168 dX11_goRun_35 rfl rfl ?_
      refine v_iload_n (n := 37) xB_168 dX11_goRun_36 rfl rfl ?_
      refine v_call_v (n := 40) xB_168 dX11_goRun_37 xO_168 iv_11_289 rfl (sh_81 _ _ _) rfl rfl rfl ?_
      refine c_last (by omega) (by first | omega | (simp only [sA_same, sA_s, ud_s, Int.reduceEq, if_true, if_false, ite_true, ite_false, ↓reduceIte, and_true, true_and, eq_self, Int.add_zero, Int.reduceAdd]; omega)) (of_eq' (JR_fr (m := m) (by simp (disch := omega) only [sA_ne]) ⟨by simp (disch := omega) only [sA_ne], by simp (disch := omega) only [sA_ne], by simp (disch := omega) only [sA_ne], by simp (disch := omega) only [sA_ne], by simp (disch := omega) only [sA_ne]⟩ _ _) hJ) ?_
      refine v_ic_gt (t := 209) (n := 43) xB_168 dX11_goRun_40 (by decide) rfl rfl (fun g1 => ?_) (fun g1 => ?_)
      · (try simp (disch := omega) only [sA_same, sA_ne, sA_sA, sA_sr, sB_s, ud_eq, ud_ne, ud_ud, ud_sr, uB_s, Int.add_zero, Int.reduceAdd] at g1)
        have hs : n = T := hst (by unfold spF; exact decide_eq_true (by omega))
        subst hs
        exact hE _ _ _ _ _ _ _ _ _ _ _ htop hlow hdn hsd hon hod hl ho
      · (try simp (disch := omega) only [sA_same, sA_ne, sA_sA, sA_sr, sB_s, ud_eq, ud_ne, ud_ud, ud_sr, uB_s, Int.add_zero, Int.reduceAdd] at g1)
        refine v_iload_n (n := 44) xB_168 dX11_goRun_43 rfl rfl ?_
        refine v_iload (n := 46) xB_168 dX11_goRun_44 rfl rfl ?_
        refine v_ic_gt_n (n := 49) xB_168 dX11_goRun_46 (by decide) rfl (by first | omega | (simp only [sA_same, sA_s, ud_s, Int.reduceEq, if_true, if_false, ite_true, ite_false, ↓reduceIte, and_true, true_and, eq_self, Int.add_zero, Int.reduceAdd]; omega)) ?_
        refine v_aload_n (n := 50) xB_168 dX11_goRun_49 rfl rfl ?_
        refine v_gf_s (n := 53) (kz := 1) xB_168 dX11_goRun_50 xO_168 fl_11_13 fg_11_1 (sh_81 _ _ _) rfl st_81_1 rfl ?_
        refine v_iload_n (n := 54) xB_168 dX11_goRun_53 rfl rfl ?_
        refine v_iaload (n := 55) (lz := 5) xB_168 dX11_goRun_54 (sh_82 _ _ _) rfl (by first | omega | (simp only [sA_same, sA_s, ud_s, Int.reduceEq, if_true, if_false, ite_true, ite_false, ↓reduceIte, and_true, true_and, eq_self, Int.add_zero, Int.reduceAdd]; omega)) rfl ?_
        refine v_iconst (n := 56) xB_168 dX11_goRun_55 ⟨by decide, by decide⟩ rfl ?_
        refine v_ic_ne_y (t := 72) xB_168 dX11_goRun_56 (by decide) rfl (by first | omega | (simp only [sA_same, sA_s, ud_s, Int.reduceEq, if_true, if_false, ite_true, ite_false, ↓reduceIte, and_true, true_and, eq_self, Int.add_zero, Int.reduceAdd]; omega)) ?_
        refine v_aload_n (n := 73) xB_168 dX11_goRun_72 rfl rfl ?_
        refine v_gf_s (n := 76) (kz := 1) xB_168 dX11_goRun_73 xO_168 fl_11_13 fg_11_1 (sh_81 _ _ _) rfl st_81_1 rfl ?_
        refine v_iload_n (n := 77) xB_168 dX11_goRun_76 rfl rfl ?_
        refine v_iaload (n := 78) (lz := 5) xB_168 dX11_goRun_77 (sh_82 _ _ _) rfl (by first | omega | (simp only [sA_same, sA_s, ud_s, Int.reduceEq, if_true, if_false, ite_true, ite_false, ↓reduceIte, and_true, true_and, eq_self, Int.add_zero, Int.reduceAdd]; omega)) rfl ?_
        refine v_iconst (n := 79) xB_168 dX11_goRun_78 ⟨by decide, by decide⟩ rfl ?_
        refine v_ic_ne_y (t := 87) xB_168 dX11_goRun_79 (by decide) rfl (by first | omega | (simp only [sA_same, sA_s, ud_s, Int.reduceEq, if_true, if_false, ite_true, ite_false, ↓reduceIte, and_true, true_and, eq_self, Int.add_zero, Int.reduceAdd]; omega)) ?_
        refine v_iload_n (n := 88) xB_168 dX11_goRun_87 rfl rfl ?_
        refine v_istore6 (n := 90) xB_168 dX11_goRun_88 rfl rfl ?_
        refine v_aload_n (n := 91) xB_168 dX11_goRun_90 rfl rfl ?_
        refine v_gf_s (n := 94) (kz := 1) xB_168 dX11_goRun_91 xO_168 fl_11_13 fg_11_1 (sh_81 _ _ _) rfl st_81_1 rfl ?_
        refine v_iload_n (n := 95) xB_168 dX11_goRun_94 rfl rfl ?_
        refine v_iaload (n := 96) (lz := 5) xB_168 dX11_goRun_95 (sh_82 _ _ _) rfl (by first | omega | (simp only [sA_same, sA_s, ud_s, Int.reduceEq, if_true, if_false, ite_true, ite_false, ↓reduceIte, and_true, true_and, eq_self, Int.add_zero, Int.reduceAdd]; omega)) rfl ?_
        refine v_iconst (n := 97) xB_168 dX11_goRun_96 ⟨by decide, by decide⟩ rfl ?_
        refine v_ic_ne_y (t := 106) xB_168 dX11_goRun_97 (by decide) rfl (by first | omega | (simp only [sA_same, sA_s, ud_s, Int.reduceEq, if_true, if_false, ite_true, ite_false, ↓reduceIte, and_true, true_and, eq_self, Int.add_zero, Int.reduceAdd]; omega)) ?_
        refine v_iinc3 (n := 109) xB_168 dX11_goRun_106 rfl (by first | omega | (simp only [sA_same, sA_s, ud_s, Int.reduceEq, if_true, if_false, ite_true, ite_false, ↓reduceIte, and_true, true_and, eq_self, Int.add_zero, Int.reduceAdd]; omega)) rfl ?_
        refine v_aload_n (n := 110) xB_168 dX11_goRun_109 rfl rfl ?_
        refine v_gf_s (n := 113) (kz := 1) xB_168 dX11_goRun_110 xO_168 fl_11_13 fg_11_1 (sh_81 _ _ _) rfl st_81_1 rfl ?_
        refine v_iload_n (n := 114) xB_168 dX11_goRun_113 rfl rfl ?_
        refine v_iaload (n := 115) (lz := 5) xB_168 dX11_goRun_114 (sh_82 _ _ _) rfl (by first | omega | (simp only [sA_same, sA_s, ud_s, Int.reduceEq, if_true, if_false, ite_true, ite_false, ↓reduceIte, and_true, true_and, eq_self, Int.add_zero, Int.reduceAdd]; omega)) rfl ?_
        refine v_iconst (n := 116) xB_168 dX11_goRun_115 ⟨by decide, by decide⟩ rfl ?_
        refine v_ic_eq_y (t := 130) xB_168 dX11_goRun_116 (by decide) rfl (by first | omega | (simp only [sA_same, sA_s, ud_s, Int.reduceEq, if_true, if_false, ite_true, ite_false, ↓reduceIte, and_true, true_and, eq_self, Int.add_zero, Int.reduceAdd]; omega)) ?_
        refine v_aload_n (n := 131) xB_168 dX11_goRun_130 rfl rfl ?_
        refine v_gf_i (n := 134) (kz := 29) xB_168 dX11_goRun_131 xO_168 fl_11_99 fg_11_29 rfl (sh_81 _ _ _) rfl rfl ?_
        refine v_iconst (n := 135) xB_168 dX11_goRun_134 ⟨by decide, by decide⟩ rfl ?_
        refine v_iadd (n := 136) xB_168 dX11_goRun_135 (by first | omega | (simp only [sA_same, sA_s, ud_s, Int.reduceEq, if_true, if_false, ite_true, ite_false, ↓reduceIte, and_true, true_and, eq_self, Int.add_zero, Int.reduceAdd]; omega)) rfl ?_
        refine v_aload_n (n := 137) xB_168 dX11_goRun_136 rfl rfl ?_
        refine v_gf_s (n := 140) (kz := 2) xB_168 dX11_goRun_137 xO_168 fl_11_17 fg_11_2 (sh_81 _ _ _) rfl st_81_2 rfl ?_
        refine v_iload_n (n := 141) xB_168 dX11_goRun_140 rfl rfl ?_
        refine v_iaload (n := 142) (lz := 5) xB_168 dX11_goRun_141 (sh_83 _ _ _) rfl (by first | omega | (simp only [sA_same, sA_s, ud_s, Int.reduceEq, if_true, if_false, ite_true, ite_false, ↓reduceIte, and_true, true_and, eq_self, Int.add_zero, Int.reduceAdd]; omega)) rfl ?_
        refine v_iconst (n := 143) xB_168 dX11_goRun_142 ⟨by decide, by decide⟩ rfl ?_
        refine v_iadd (n := 144) xB_168 dX11_goRun_143 (by first | omega | (simp only [sA_same, sA_s, ud_s, Int.reduceEq, if_true, if_false, ite_true, ite_false, ↓reduceIte, and_true, true_and, eq_self, Int.add_zero, Int.reduceAdd]; omega)) rfl ?_
        refine v_irem (n := 145) xB_168 dX11_goRun_144 (by first | omega | (simp only [sA_same, sA_s, ud_s, Int.reduceEq, if_true, if_false, ite_true, ite_false, ↓reduceIte, and_true, true_and, eq_self, Int.add_zero, Int.reduceAdd]; omega)) rfl ?_
        refine v_if_ne (t := 152) (n := 148) xB_168 dX11_goRun_145 (by decide) rfl rfl (fun g2 => ?_) (fun g2 => ?_)
        · (try simp (disch := omega) only [sA_same, sA_ne, sA_sA, sA_sr, sB_s, ud_eq, ud_ne, ud_ud, ud_sr, uB_s, Int.add_zero, Int.reduceAdd] at g2)
          refine v_iconst (n := 153) xB_168 dX11_goRun_152 ⟨by decide, by decide⟩ rfl ?_
          refine v_istore7 (n := 155) xB_168 dX11_goRun_153 rfl rfl ?_
          refine v_iload (n := 157) xB_168 dX11_goRun_155 rfl rfl ?_
          refine v_if_ne_n (n := 160) xB_168 dX11_goRun_157 (by decide) rfl (by decide) ?_
          refine v_aload_n (n := 161) xB_168 dX11_goRun_160 rfl rfl ?_
          refine v_iload (n := 163) xB_168 dX11_goRun_161 rfl rfl ?_
          refine v_aload_n (n := 164) xB_168 dX11_goRun_163 rfl rfl ?_
          refine v_iload_n (n := 165) xB_168 dX11_goRun_164 rfl rfl ?_
          refine v_iload (n := 167) xB_168 dX11_goRun_165 rfl rfl ?_
          refine v_call_v (n := 170) xB_168 dX11_goRun_167 xO_168 iv_11_334 rfl (sh_81 _ _ _) rfl rfl rfl ?_
          refine c_told1 (by omega) (by first | omega | (simp only [sA_same, sA_s, ud_s, Int.reduceEq, if_true, if_false, ite_true, ite_false, ↓reduceIte, and_true, true_and, eq_self, Int.add_zero, Int.reduceAdd]; omega)) (by first | omega | (simp only [sA_same, sA_s, ud_s, Int.reduceEq, if_true, if_false, ite_true, ite_false, ↓reduceIte, and_true, true_and, eq_self, Int.add_zero, Int.reduceAdd]; omega)) (by first | omega | (simp only [sA_same, sA_s, ud_s, Int.reduceEq, if_true, if_false, ite_true, ite_false, ↓reduceIte, and_true, true_and, eq_self, Int.add_zero, Int.reduceAdd]; omega)) (by simp (disch := omega) only [sA_ne]; exact hr) ?_
          refine v_aload_n (n := 171) xB_168 dX11_goRun_170 rfl rfl ?_
          refine v_iload_n (n := 172) xB_168 dX11_goRun_171 rfl rfl ?_
          refine v_iconst (n := 173) xB_168 dX11_goRun_172 ⟨by decide, by decide⟩ rfl ?_
          refine v_iload (n := 175) xB_168 dX11_goRun_173 rfl rfl ?_
          refine v_iload_n (n := 176) xB_168 dX11_goRun_175 rfl rfl ?_
          refine v_aload_n (n := 177) xB_168 dX11_goRun_176 rfl rfl ?_
          refine v_gf_i (n := 180) (kz := 29) xB_168 dX11_goRun_177 xO_168 fl_11_99 fg_11_29 rfl (sh_81 _ _ _) rfl rfl ?_
          refine v_call_v (n := 183) xB_168 dX11_goRun_180 xO_168 iv_11_327 rfl (sh_81 _ _ _) rfl rfl rfl ?_
          refine c_anyHolds (by omega) (by first | omega | (simp only [sA_same, sA_s, ud_s, Int.reduceEq, if_true, if_false, ite_true, ite_false, ↓reduceIte, and_true, true_and, eq_self, Int.add_zero, Int.reduceAdd]; omega)) (of_eq' (JR_fr (m := m) (by simp (disch := omega) only [sA_ne]) ⟨by simp (disch := omega) only [sA_ne], by simp (disch := omega) only [sA_ne], by simp (disch := omega) only [sA_ne], by simp (disch := omega) only [sA_ne], by simp (disch := omega) only [sA_ne]⟩ _ _) hJ) (by first | omega | (simp only [sA_same, sA_s, ud_s, Int.reduceEq, if_true, if_false, ite_true, ite_false, ↓reduceIte, and_true, true_and, eq_self, Int.add_zero, Int.reduceAdd]; omega)) (by first | omega | (simp only [sA_same, sA_s, ud_s, Int.reduceEq, if_true, if_false, ite_true, ite_false, ↓reduceIte, and_true, true_and, eq_self, Int.add_zero, Int.reduceAdd]; omega)) (by first | omega | (simp only [sA_same, sA_s, ud_s, Int.reduceEq, if_true, if_false, ite_true, ite_false, ↓reduceIte, and_true, true_and, eq_self, Int.add_zero, Int.reduceAdd]; omega)) (fun f3 g3 => ?_) (fun f3 g4 => ?_)
          · (try simp (disch := omega) only [sA_same, sA_ne, sA_sA, sA_sr, sB_s, ud_eq, ud_ne, ud_ud, ud_sr, uB_s, Int.add_zero, Int.reduceAdd] at g3)
            (try simp (disch := omega) only [sA_same, sA_ne, sA_sA, sA_sr, sB_s, ud_eq, ud_ne, ud_ud, ud_sr, uB_s, Int.add_zero, Int.reduceAdd])
            refine v_call_v (n := 186) xB_168 dX11_goRun_183 xO_168 iv_11_338 rfl (sh_81 _ _ _) rfl rfl rfl ?_
            refine c_prints (by omega) (by first | omega | (simp only [sA_same, sA_s, ud_s, Int.reduceEq, if_true, if_false, ite_true, ite_false, ↓reduceIte, and_true, true_and, eq_self, Int.add_zero, Int.reduceAdd]; omega)) (mnmo (by omega) (hr _).1) (by decide) (by first | omega | (simp only [sA_same, sA_s, ud_s, Int.reduceEq, if_true, if_false, ite_true, ite_false, ↓reduceIte, and_true, true_and, eq_self, Int.add_zero, Int.reduceAdd]; omega)) (by simp (disch := omega) only [sA_ne, sA_same]; assumption) (by simp (disch := omega) only [sA_ne, sA_same]; assumption) (fun sd1 dn1 hdn1 hsd1 hpk1 => ?_)
            (try simp (disch := omega) only [sA_same, sA_ne, sA_sA, sA_sr, sB_s, ud_eq, ud_ne, ud_ud, ud_sr, uB_s, Int.add_zero, Int.reduceAdd])
            refine v_iinc5 (n := 189) xB_168 dX11_goRun_186 rfl (by first | omega | (simp only [sA_same, sA_s, ud_s, Int.reduceEq, if_true, if_false, ite_true, ite_false, ↓reduceIte, and_true, true_and, eq_self, Int.add_zero, Int.reduceAdd]; omega)) rfl ?_
            refine v_aload_n (n := 190) xB_168 dX11_goRun_189 rfl rfl ?_
            refine v_iload (n := 192) xB_168 dX11_goRun_190 rfl rfl ?_
            refine v_iload_n (n := 193) xB_168 dX11_goRun_192 rfl rfl ?_
            refine v_call_v (n := 196) xB_168 dX11_goRun_193 xO_168 iv_11_342 rfl (sh_81 _ _ _) rfl rfl rfl ?_
            refine c_putsOut (by omega) (by first | omega | (simp only [sA_same, sA_s, ud_s, Int.reduceEq, if_true, if_false, ite_true, ite_false, ↓reduceIte, and_true, true_and, eq_self, Int.add_zero, Int.reduceAdd]; omega)) (by first | omega | (simp only [sA_same, sA_s, ud_s, Int.reduceEq, if_true, if_false, ite_true, ite_false, ↓reduceIte, and_true, true_and, eq_self, Int.add_zero, Int.reduceAdd]; omega)) (by first | omega | (simp only [sA_same, sA_s, ud_s, Int.reduceEq, if_true, if_false, ite_true, ite_false, ↓reduceIte, and_true, true_and, eq_self, Int.add_zero, Int.reduceAdd]; omega)) (by first | omega | (simp only [sA_same, sA_s, ud_s, Int.reduceEq, if_true, if_false, ite_true, ite_false, ↓reduceIte, and_true, true_and, eq_self, Int.add_zero, Int.reduceAdd]; omega)) (by simp (disch := omega) only [sA_ne, sA_same]; assumption) (by simp (disch := omega) only [sA_ne, sA_same]; assumption) (by simp (disch := omega) only [sA_ne, sA_same]; assumption) (by simp (disch := omega) only [sA_ne, sA_same]; assumption) (fun sd2 dn2 od2 on2 hdn2 hsd2 hon2 hod2 hpk2 hpo2 => ?_)
            (try simp (disch := omega) only [sA_same, sA_ne, sA_sA, sA_sr, sB_s, ud_eq, ud_ne, ud_ud, ud_sr, uB_s, Int.add_zero, Int.reduceAdd])
            refine v_aload_n (n := 197) xB_168 dX11_goRun_196 rfl rfl ?_
            refine v_iload_n (n := 198) xB_168 dX11_goRun_197 rfl rfl ?_
            refine v_iload (n := 200) xB_168 dX11_goRun_198 rfl rfl ?_
            refine v_iload_n (n := 201) xB_168 dX11_goRun_200 rfl rfl ?_
            refine v_call_v (n := 204) xB_168 dX11_goRun_201 xO_168 iv_11_331 rfl (sh_81 _ _ _) rfl rfl rfl ?_
            refine c_goesOn (by omega) (by first | omega | (simp only [sA_same, sA_s, ud_s, Int.reduceEq, if_true, if_false, ite_true, ite_false, ↓reduceIte, and_true, true_and, eq_self, Int.add_zero, Int.reduceAdd]; omega)) (of_eq' (JR_fr (m := m) (by simp (disch := omega) only [sA_ne]) ⟨by simp (disch := omega) only [sA_ne], by simp (disch := omega) only [sA_ne], by simp (disch := omega) only [sA_ne], by simp (disch := omega) only [sA_ne], by simp (disch := omega) only [sA_ne]⟩ _ _) hJ) (by first | omega | (simp only [sA_same, sA_s, ud_s, Int.reduceEq, if_true, if_false, ite_true, ite_false, ↓reduceIte, and_true, true_and, eq_self, Int.add_zero, Int.reduceAdd]; omega)) (by first | omega | (simp only [sA_same, sA_s, ud_s, Int.reduceEq, if_true, if_false, ite_true, ite_false, ↓reduceIte, and_true, true_and, eq_self, Int.add_zero, Int.reduceAdd]; omega)) (fun f5 => ?_)
            (try simp (disch := omega) only [sA_same, sA_ne, sA_sA, sA_sr, sB_s, ud_eq, ud_ne, ud_ud, ud_sr, uB_s, Int.add_zero, Int.reduceAdd])
            refine v_istore5 (n := 206) xB_168 dX11_goRun_204 rfl rfl ?_
            refine v_goto (t := 33) xB_168 dX11_goRun_206 (by decide) rfl ?_
            have hd0 : dryF (m 82 t) (m 83 t) n = false := by unfold dryF; exact decide_eq_false (by omega)
            rw [hd0, if_neg (by decide)] at hpg1 hpr1
            simp (disch := omega) only [sA_same, sA_ne, sA_sA, sA_sr, sB_s, ud_eq, ud_ne, ud_ud, ud_sr, uB_s, Int.add_zero, Int.reduceAdd] at hpk2 hpo2
            first | rw [show decide ((1 : Int) = 1) = true from rfl] at hpk1 | rw [show decide ((0 : Int) = 1) = false from rfl] at hpk1
            simp (disch := omega) only [sA_same, sA_ne, sA_sA, sA_sr, sB_s, ud_eq, ud_ne, ud_ud, ud_sr, uB_s, Int.add_zero, Int.reduceAdd] at hpk1
            rw [← hpr1, ← Int.natCast_succ]
            have hs1 : spF (m 82 t) (m 83 t) CL n = false := by unfold spF; exact decide_eq_false (by omega)
            have hix : (if m 82 t = 4 then m 81 22 - 1 - (n : Int) else n) = top := by first | rw [if_pos hk, hs0] | rw [if_neg (by omega), hs0]
            refine ih (n + 1) _ _ _ _ _ _ _ _ _ _ _ (by omega) (hgo hs1) (by unfold qF; rw [hpg1]) ?_ ?_ hdn2 hsd2 hon2 hod2 ?_ ?_
            · first | (rw [if_pos hk]; omega) | (rw [if_neg (by omega)]; omega)
            · first | (rw [if_pos hk]; omega) | (rw [if_neg (by omega)]; omega)
            · intro s h1 h2
              rw [hpk2 s (by omega), hpk1, if_neg (by omega)]
              exact hl s (by omega) (by omega)
            · intro i hi
              rw [hpo2]
              by_cases hx : (i : Int) = n
              · have hi2 : i = n := by omega
                subst hi2
                rw [if_pos rfl, hpk1, if_pos rfl, hl _ (by omega) (by omega)]
                unfold oF
                rw [hd0, if_neg (by decide), ← hpg, hix]
                first | rw [show anyW CL 3 pg (m 82 t) (m 83 t) i = true from by assumption] | rw [show anyW CL 3 pg (m 82 t) (m 83 t) i = false from by assumption]
                rfl
              · rw [if_neg hx]
                exact ho i (by omega)
          · (try simp (disch := omega) only [sA_same, sA_ne, sA_sA, sA_sr, sB_s, ud_eq, ud_ne, ud_ud, ud_sr, uB_s, Int.add_zero, Int.reduceAdd] at g4)
            (try simp (disch := omega) only [sA_same, sA_ne, sA_sA, sA_sr, sB_s, ud_eq, ud_ne, ud_ud, ud_sr, uB_s, Int.add_zero, Int.reduceAdd])
            refine v_call_v (n := 186) xB_168 dX11_goRun_183 xO_168 iv_11_338 rfl (sh_81 _ _ _) rfl rfl rfl ?_
            refine c_prints (by omega) (by first | omega | (simp only [sA_same, sA_s, ud_s, Int.reduceEq, if_true, if_false, ite_true, ite_false, ↓reduceIte, and_true, true_and, eq_self, Int.add_zero, Int.reduceAdd]; omega)) (mnmo (by omega) (hr _).1) (by decide) (by first | omega | (simp only [sA_same, sA_s, ud_s, Int.reduceEq, if_true, if_false, ite_true, ite_false, ↓reduceIte, and_true, true_and, eq_self, Int.add_zero, Int.reduceAdd]; omega)) (by simp (disch := omega) only [sA_ne, sA_same]; assumption) (by simp (disch := omega) only [sA_ne, sA_same]; assumption) (fun sd1 dn1 hdn1 hsd1 hpk1 => ?_)
            (try simp (disch := omega) only [sA_same, sA_ne, sA_sA, sA_sr, sB_s, ud_eq, ud_ne, ud_ud, ud_sr, uB_s, Int.add_zero, Int.reduceAdd])
            refine v_iinc5 (n := 189) xB_168 dX11_goRun_186 rfl (by first | omega | (simp only [sA_same, sA_s, ud_s, Int.reduceEq, if_true, if_false, ite_true, ite_false, ↓reduceIte, and_true, true_and, eq_self, Int.add_zero, Int.reduceAdd]; omega)) rfl ?_
            refine v_aload_n (n := 190) xB_168 dX11_goRun_189 rfl rfl ?_
            refine v_iload (n := 192) xB_168 dX11_goRun_190 rfl rfl ?_
            refine v_iload_n (n := 193) xB_168 dX11_goRun_192 rfl rfl ?_
            refine v_call_v (n := 196) xB_168 dX11_goRun_193 xO_168 iv_11_342 rfl (sh_81 _ _ _) rfl rfl rfl ?_
            refine c_putsOut (by omega) (by first | omega | (simp only [sA_same, sA_s, ud_s, Int.reduceEq, if_true, if_false, ite_true, ite_false, ↓reduceIte, and_true, true_and, eq_self, Int.add_zero, Int.reduceAdd]; omega)) (by first | omega | (simp only [sA_same, sA_s, ud_s, Int.reduceEq, if_true, if_false, ite_true, ite_false, ↓reduceIte, and_true, true_and, eq_self, Int.add_zero, Int.reduceAdd]; omega)) (by first | omega | (simp only [sA_same, sA_s, ud_s, Int.reduceEq, if_true, if_false, ite_true, ite_false, ↓reduceIte, and_true, true_and, eq_self, Int.add_zero, Int.reduceAdd]; omega)) (by first | omega | (simp only [sA_same, sA_s, ud_s, Int.reduceEq, if_true, if_false, ite_true, ite_false, ↓reduceIte, and_true, true_and, eq_self, Int.add_zero, Int.reduceAdd]; omega)) (by simp (disch := omega) only [sA_ne, sA_same]; assumption) (by simp (disch := omega) only [sA_ne, sA_same]; assumption) (by simp (disch := omega) only [sA_ne, sA_same]; assumption) (by simp (disch := omega) only [sA_ne, sA_same]; assumption) (fun sd2 dn2 od2 on2 hdn2 hsd2 hon2 hod2 hpk2 hpo2 => ?_)
            (try simp (disch := omega) only [sA_same, sA_ne, sA_sA, sA_sr, sB_s, ud_eq, ud_ne, ud_ud, ud_sr, uB_s, Int.add_zero, Int.reduceAdd])
            refine v_aload_n (n := 197) xB_168 dX11_goRun_196 rfl rfl ?_
            refine v_iload_n (n := 198) xB_168 dX11_goRun_197 rfl rfl ?_
            refine v_iload (n := 200) xB_168 dX11_goRun_198 rfl rfl ?_
            refine v_iload_n (n := 201) xB_168 dX11_goRun_200 rfl rfl ?_
            refine v_call_v (n := 204) xB_168 dX11_goRun_201 xO_168 iv_11_331 rfl (sh_81 _ _ _) rfl rfl rfl ?_
            refine c_goesOn (by omega) (by first | omega | (simp only [sA_same, sA_s, ud_s, Int.reduceEq, if_true, if_false, ite_true, ite_false, ↓reduceIte, and_true, true_and, eq_self, Int.add_zero, Int.reduceAdd]; omega)) (of_eq' (JR_fr (m := m) (by simp (disch := omega) only [sA_ne]) ⟨by simp (disch := omega) only [sA_ne], by simp (disch := omega) only [sA_ne], by simp (disch := omega) only [sA_ne], by simp (disch := omega) only [sA_ne], by simp (disch := omega) only [sA_ne]⟩ _ _) hJ) (by first | omega | (simp only [sA_same, sA_s, ud_s, Int.reduceEq, if_true, if_false, ite_true, ite_false, ↓reduceIte, and_true, true_and, eq_self, Int.add_zero, Int.reduceAdd]; omega)) (by first | omega | (simp only [sA_same, sA_s, ud_s, Int.reduceEq, if_true, if_false, ite_true, ite_false, ↓reduceIte, and_true, true_and, eq_self, Int.add_zero, Int.reduceAdd]; omega)) (fun f5 => ?_)
            (try simp (disch := omega) only [sA_same, sA_ne, sA_sA, sA_sr, sB_s, ud_eq, ud_ne, ud_ud, ud_sr, uB_s, Int.add_zero, Int.reduceAdd])
            refine v_istore5 (n := 206) xB_168 dX11_goRun_204 rfl rfl ?_
            refine v_goto (t := 33) xB_168 dX11_goRun_206 (by decide) rfl ?_
            have hd0 : dryF (m 82 t) (m 83 t) n = false := by unfold dryF; exact decide_eq_false (by omega)
            rw [hd0, if_neg (by decide)] at hpg1 hpr1
            simp (disch := omega) only [sA_same, sA_ne, sA_sA, sA_sr, sB_s, ud_eq, ud_ne, ud_ud, ud_sr, uB_s, Int.add_zero, Int.reduceAdd] at hpk2 hpo2
            first | rw [show decide ((1 : Int) = 1) = true from rfl] at hpk1 | rw [show decide ((0 : Int) = 1) = false from rfl] at hpk1
            simp (disch := omega) only [sA_same, sA_ne, sA_sA, sA_sr, sB_s, ud_eq, ud_ne, ud_ud, ud_sr, uB_s, Int.add_zero, Int.reduceAdd] at hpk1
            rw [← hpr1, ← Int.natCast_succ]
            have hs1 : spF (m 82 t) (m 83 t) CL n = false := by unfold spF; exact decide_eq_false (by omega)
            have hix : (if m 82 t = 4 then m 81 22 - 1 - (n : Int) else n) = top := by first | rw [if_pos hk, hs0] | rw [if_neg (by omega), hs0]
            refine ih (n + 1) _ _ _ _ _ _ _ _ _ _ _ (by omega) (hgo hs1) (by unfold qF; rw [hpg1]) ?_ ?_ hdn2 hsd2 hon2 hod2 ?_ ?_
            · first | (rw [if_pos hk]; omega) | (rw [if_neg (by omega)]; omega)
            · first | (rw [if_pos hk]; omega) | (rw [if_neg (by omega)]; omega)
            · intro s h1 h2
              rw [hpk2 s (by omega), hpk1, if_neg (by omega)]
              exact hl s (by omega) (by omega)
            · intro i hi
              rw [hpo2]
              by_cases hx : (i : Int) = n
              · have hi2 : i = n := by omega
                subst hi2
                rw [if_pos rfl, hpk1, if_pos rfl, hl _ (by omega) (by omega)]
                unfold oF
                rw [hd0, if_neg (by decide), ← hpg, hix]
                first | rw [show anyW CL 3 pg (m 82 t) (m 83 t) i = true from by assumption] | rw [show anyW CL 3 pg (m 82 t) (m 83 t) i = false from by assumption]
                rfl
              · rw [if_neg hx]
                exact ho i (by omega)
        · (try simp (disch := omega) only [sA_same, sA_ne, sA_sA, sA_sr, sB_s, ud_eq, ud_ne, ud_ud, ud_sr, uB_s, Int.add_zero, Int.reduceAdd] at g2)
          refine v_iconst (n := 149) xB_168 dX11_goRun_148 ⟨by decide, by decide⟩ rfl ?_
          refine v_goto (t := 153) xB_168 dX11_goRun_149 (by decide) rfl ?_
          refine v_istore7 (n := 155) xB_168 dX11_goRun_153 rfl rfl ?_
          refine v_iload (n := 157) xB_168 dX11_goRun_155 rfl rfl ?_
          refine v_if_ne_y (t := 189) xB_168 dX11_goRun_157 (by decide) rfl (by decide) ?_
          refine v_aload_n (n := 190) xB_168 dX11_goRun_189 rfl rfl ?_
          refine v_iload (n := 192) xB_168 dX11_goRun_190 rfl rfl ?_
          refine v_iload_n (n := 193) xB_168 dX11_goRun_192 rfl rfl ?_
          refine v_call_v (n := 196) xB_168 dX11_goRun_193 xO_168 iv_11_342 rfl (sh_81 _ _ _) rfl rfl rfl ?_
          refine c_putsOut (by omega) (by first | omega | (simp only [sA_same, sA_s, ud_s, Int.reduceEq, if_true, if_false, ite_true, ite_false, ↓reduceIte, and_true, true_and, eq_self, Int.add_zero, Int.reduceAdd]; omega)) (by first | omega | (simp only [sA_same, sA_s, ud_s, Int.reduceEq, if_true, if_false, ite_true, ite_false, ↓reduceIte, and_true, true_and, eq_self, Int.add_zero, Int.reduceAdd]; omega)) (by first | omega | (simp only [sA_same, sA_s, ud_s, Int.reduceEq, if_true, if_false, ite_true, ite_false, ↓reduceIte, and_true, true_and, eq_self, Int.add_zero, Int.reduceAdd]; omega)) (by first | omega | (simp only [sA_same, sA_s, ud_s, Int.reduceEq, if_true, if_false, ite_true, ite_false, ↓reduceIte, and_true, true_and, eq_self, Int.add_zero, Int.reduceAdd]; omega)) (by simp (disch := omega) only [sA_ne, sA_same]; assumption) (by simp (disch := omega) only [sA_ne, sA_same]; assumption) (by simp (disch := omega) only [sA_ne, sA_same]; assumption) (by simp (disch := omega) only [sA_ne, sA_same]; assumption) (fun sd2 dn2 od2 on2 hdn2 hsd2 hon2 hod2 hpk2 hpo2 => ?_)
          (try simp (disch := omega) only [sA_same, sA_ne, sA_sA, sA_sr, sB_s, ud_eq, ud_ne, ud_ud, ud_sr, uB_s, Int.add_zero, Int.reduceAdd])
          refine v_aload_n (n := 197) xB_168 dX11_goRun_196 rfl rfl ?_
          refine v_iload_n (n := 198) xB_168 dX11_goRun_197 rfl rfl ?_
          refine v_iload (n := 200) xB_168 dX11_goRun_198 rfl rfl ?_
          refine v_iload_n (n := 201) xB_168 dX11_goRun_200 rfl rfl ?_
          refine v_call_v (n := 204) xB_168 dX11_goRun_201 xO_168 iv_11_331 rfl (sh_81 _ _ _) rfl rfl rfl ?_
          refine c_goesOn (by omega) (by first | omega | (simp only [sA_same, sA_s, ud_s, Int.reduceEq, if_true, if_false, ite_true, ite_false, ↓reduceIte, and_true, true_and, eq_self, Int.add_zero, Int.reduceAdd]; omega)) (of_eq' (JR_fr (m := m) (by simp (disch := omega) only [sA_ne]) ⟨by simp (disch := omega) only [sA_ne], by simp (disch := omega) only [sA_ne], by simp (disch := omega) only [sA_ne], by simp (disch := omega) only [sA_ne], by simp (disch := omega) only [sA_ne]⟩ _ _) hJ) (by first | omega | (simp only [sA_same, sA_s, ud_s, Int.reduceEq, if_true, if_false, ite_true, ite_false, ↓reduceIte, and_true, true_and, eq_self, Int.add_zero, Int.reduceAdd]; omega)) (by first | omega | (simp only [sA_same, sA_s, ud_s, Int.reduceEq, if_true, if_false, ite_true, ite_false, ↓reduceIte, and_true, true_and, eq_self, Int.add_zero, Int.reduceAdd]; omega)) (fun f5 => ?_)
          (try simp (disch := omega) only [sA_same, sA_ne, sA_sA, sA_sr, sB_s, ud_eq, ud_ne, ud_ud, ud_sr, uB_s, Int.add_zero, Int.reduceAdd])
          refine v_istore5 (n := 206) xB_168 dX11_goRun_204 rfl rfl ?_
          refine v_goto (t := 33) xB_168 dX11_goRun_206 (by decide) rfl ?_
          have hd0 : dryF (m 82 t) (m 83 t) n = true := by unfold dryF; exact decide_eq_true (by omega)
          rw [hd0, if_pos rfl] at hpg1 hpr1
          simp (disch := omega) only [sA_same, sA_ne, sA_sA, sA_sr, sB_s, ud_eq, ud_ne, ud_ud, ud_sr, uB_s, Int.add_zero, Int.reduceAdd] at hpk2 hpo2
          rw [← hpr1, ← Int.natCast_succ]
          have hs1 : spF (m 82 t) (m 83 t) CL n = false := by unfold spF; exact decide_eq_false (by omega)
          have hix : (if m 82 t = 4 then m 81 22 - 1 - (n : Int) else n) = top := by first | rw [if_pos hk, hs0] | rw [if_neg (by omega), hs0]
          refine ih (n + 1) _ _ _ _ _ _ _ _ _ _ _ (by omega) (hgo hs1) (by unfold qF; rw [hpg1]) ?_ ?_ hdn2 hsd2 hon2 hod2 ?_ ?_
          · first | (rw [if_pos hk]; omega) | (rw [if_neg (by omega)]; omega)
          · first | (rw [if_pos hk]; omega) | (rw [if_neg (by omega)]; omega)
          · intro s h1 h2
            rw [hpk2 s (by omega)]
            exact hl s (by omega) (by omega)
          · intro i hi
            rw [hpo2]
            by_cases hx : (i : Int) = n
            · have hi2 : i = n := by omega
              subst hi2
              rw [if_pos rfl, hl _ (by omega) (by omega)]
              unfold oF
              rw [hd0, if_pos rfl, hix]
            · rw [if_neg hx]
              exact ho i (by omega)
    · have hs0 : top = n := by rw [htop, if_neg (by omega)]
      have ht0 : low = m 81 22 - 1 := by rw [hlow, if_neg (by omega)]
      refine v_iload (n := 35) xB_168 dX11_goRun_33 rfl rfl ?_
      refine v_aload_n (n := 36) xB_168 dX11_goRun_35 rfl rfl ?_
      refine v_iload_n (n := 37) xB_168 dX11_goRun_36 rfl rfl ?_
      refine v_call_v (n := 40) xB_168 dX11_goRun_37 xO_168 iv_11_289 rfl (sh_81 _ _ _) rfl rfl rfl ?_
      refine c_last (by omega) (by first | omega | (simp only [sA_same, sA_s, ud_s, Int.reduceEq, if_true, if_false, ite_true, ite_false, ↓reduceIte, and_true, true_and, eq_self, Int.add_zero, Int.reduceAdd]; omega)) (of_eq' (JR_fr (m := m) (by simp (disch := omega) only [sA_ne]) ⟨by simp (disch := omega) only [sA_ne], by simp (disch := omega) only [sA_ne], by simp (disch := omega) only [sA_ne], by simp (disch := omega) only [sA_ne], by simp (disch := omega) only [sA_ne]⟩ _ _) hJ) ?_
      refine v_ic_gt (t := 209) (n := 43) xB_168 dX11_goRun_40 (by decide) rfl rfl (fun g1 => ?_) (fun g1 => ?_)
      · (try simp (disch := omega) only [sA_same, sA_ne, sA_sA, sA_sr, sB_s, ud_eq, ud_ne, ud_ud, ud_sr, uB_s, Int.add_zero, Int.reduceAdd] at g1)
        have hs : n = T := hst (by unfold spF; exact decide_eq_true (by omega))
        subst hs
        exact hE _ _ _ _ _ _ _ _ _ _ _ htop hlow hdn hsd hon hod hl ho
      · (try simp (disch := omega) only [sA_same, sA_ne, sA_sA, sA_sr, sB_s, ud_eq, ud_ne, ud_ud, ud_sr, uB_s, Int.add_zero, Int.reduceAdd] at g1)
        refine v_iload_n (n := 44) xB_168 dX11_goRun_43 rfl rfl ?_
        refine v_iload (n := 46) xB_168 dX11_goRun_44 rfl rfl ?_
        refine v_ic_gt_n (n := 49) xB_168 dX11_goRun_46 (by decide) rfl (by first | omega | (simp only [sA_same, sA_s, ud_s, Int.reduceEq, if_true, if_false, ite_true, ite_false, ↓reduceIte, and_true, true_and, eq_self, Int.add_zero, Int.reduceAdd]; omega)) ?_
        refine v_aload_n (n := 50) xB_168 dX11_goRun_49 rfl rfl ?_
        refine v_gf_s (n := 53) (kz := 1) xB_168 dX11_goRun_50 xO_168 fl_11_13 fg_11_1 (sh_81 _ _ _) rfl st_81_1 rfl ?_
        refine v_iload_n (n := 54) xB_168 dX11_goRun_53 rfl rfl ?_
        refine v_iaload (n := 55) (lz := 5) xB_168 dX11_goRun_54 (sh_82 _ _ _) rfl (by first | omega | (simp only [sA_same, sA_s, ud_s, Int.reduceEq, if_true, if_false, ite_true, ite_false, ↓reduceIte, and_true, true_and, eq_self, Int.add_zero, Int.reduceAdd]; omega)) rfl ?_
        refine v_iconst (n := 56) xB_168 dX11_goRun_55 ⟨by decide, by decide⟩ rfl ?_
        refine v_ic_ne_y (t := 72) xB_168 dX11_goRun_56 (by decide) rfl (by first | omega | (simp only [sA_same, sA_s, ud_s, Int.reduceEq, if_true, if_false, ite_true, ite_false, ↓reduceIte, and_true, true_and, eq_self, Int.add_zero, Int.reduceAdd]; omega)) ?_
        refine v_aload_n (n := 73) xB_168 dX11_goRun_72 rfl rfl ?_
        refine v_gf_s (n := 76) (kz := 1) xB_168 dX11_goRun_73 xO_168 fl_11_13 fg_11_1 (sh_81 _ _ _) rfl st_81_1 rfl ?_
        refine v_iload_n (n := 77) xB_168 dX11_goRun_76 rfl rfl ?_
        refine v_iaload (n := 78) (lz := 5) xB_168 dX11_goRun_77 (sh_82 _ _ _) rfl (by first | omega | (simp only [sA_same, sA_s, ud_s, Int.reduceEq, if_true, if_false, ite_true, ite_false, ↓reduceIte, and_true, true_and, eq_self, Int.add_zero, Int.reduceAdd]; omega)) rfl ?_
        refine v_iconst (n := 79) xB_168 dX11_goRun_78 ⟨by decide, by decide⟩ rfl ?_
        refine v_ic_ne_y (t := 87) xB_168 dX11_goRun_79 (by decide) rfl (by first | omega | (simp only [sA_same, sA_s, ud_s, Int.reduceEq, if_true, if_false, ite_true, ite_false, ↓reduceIte, and_true, true_and, eq_self, Int.add_zero, Int.reduceAdd]; omega)) ?_
        refine v_iload_n (n := 88) xB_168 dX11_goRun_87 rfl rfl ?_
        refine v_istore6 (n := 90) xB_168 dX11_goRun_88 rfl rfl ?_
        refine v_aload_n (n := 91) xB_168 dX11_goRun_90 rfl rfl ?_
        refine v_gf_s (n := 94) (kz := 1) xB_168 dX11_goRun_91 xO_168 fl_11_13 fg_11_1 (sh_81 _ _ _) rfl st_81_1 rfl ?_
        refine v_iload_n (n := 95) xB_168 dX11_goRun_94 rfl rfl ?_
        refine v_iaload (n := 96) (lz := 5) xB_168 dX11_goRun_95 (sh_82 _ _ _) rfl (by first | omega | (simp only [sA_same, sA_s, ud_s, Int.reduceEq, if_true, if_false, ite_true, ite_false, ↓reduceIte, and_true, true_and, eq_self, Int.add_zero, Int.reduceAdd]; omega)) rfl ?_
        refine v_iconst (n := 97) xB_168 dX11_goRun_96 ⟨by decide, by decide⟩ rfl ?_
        refine v_ic_ne_y (t := 106) xB_168 dX11_goRun_97 (by decide) rfl (by first | omega | (simp only [sA_same, sA_s, ud_s, Int.reduceEq, if_true, if_false, ite_true, ite_false, ↓reduceIte, and_true, true_and, eq_self, Int.add_zero, Int.reduceAdd]; omega)) ?_
        refine v_iinc3 (n := 109) xB_168 dX11_goRun_106 rfl (by first | omega | (simp only [sA_same, sA_s, ud_s, Int.reduceEq, if_true, if_false, ite_true, ite_false, ↓reduceIte, and_true, true_and, eq_self, Int.add_zero, Int.reduceAdd]; omega)) rfl ?_
        refine v_aload_n (n := 110) xB_168 dX11_goRun_109 rfl rfl ?_
        refine v_gf_s (n := 113) (kz := 1) xB_168 dX11_goRun_110 xO_168 fl_11_13 fg_11_1 (sh_81 _ _ _) rfl st_81_1 rfl ?_
        refine v_iload_n (n := 114) xB_168 dX11_goRun_113 rfl rfl ?_
        refine v_iaload (n := 115) (lz := 5) xB_168 dX11_goRun_114 (sh_82 _ _ _) rfl (by first | omega | (simp only [sA_same, sA_s, ud_s, Int.reduceEq, if_true, if_false, ite_true, ite_false, ↓reduceIte, and_true, true_and, eq_self, Int.add_zero, Int.reduceAdd]; omega)) rfl ?_
        refine v_iconst (n := 116) xB_168 dX11_goRun_115 ⟨by decide, by decide⟩ rfl ?_
        refine v_ic_eq_n (n := 119) xB_168 dX11_goRun_116 (by decide) rfl (by first | omega | (simp only [sA_same, sA_s, ud_s, Int.reduceEq, if_true, if_false, ite_true, ite_false, ↓reduceIte, and_true, true_and, eq_self, Int.add_zero, Int.reduceAdd]; omega)) ?_
        refine v_aload_n (n := 120) xB_168 dX11_goRun_119 rfl rfl ?_
        refine v_gf_s (n := 123) (kz := 1) xB_168 dX11_goRun_120 xO_168 fl_11_13 fg_11_1 (sh_81 _ _ _) rfl st_81_1 rfl ?_
        refine v_iload_n (n := 124) xB_168 dX11_goRun_123 rfl rfl ?_
        refine v_iaload (n := 125) (lz := 5) xB_168 dX11_goRun_124 (sh_82 _ _ _) rfl (by first | omega | (simp only [sA_same, sA_s, ud_s, Int.reduceEq, if_true, if_false, ite_true, ite_false, ↓reduceIte, and_true, true_and, eq_self, Int.add_zero, Int.reduceAdd]; omega)) rfl ?_
        refine v_bipush (n := 127) xB_168 dX11_goRun_125 ⟨by decide, by decide⟩ rfl ?_
        refine v_ic_ne_n (n := 130) xB_168 dX11_goRun_127 (by decide) rfl (by first | omega | (simp only [sA_same, sA_s, ud_s, Int.reduceEq, if_true, if_false, ite_true, ite_false, ↓reduceIte, and_true, true_and, eq_self, Int.add_zero, Int.reduceAdd]; omega)) ?_
        refine v_aload_n (n := 131) xB_168 dX11_goRun_130 rfl rfl ?_
        refine v_gf_i (n := 134) (kz := 29) xB_168 dX11_goRun_131 xO_168 fl_11_99 fg_11_29 rfl (sh_81 _ _ _) rfl rfl ?_
        refine v_iconst (n := 135) xB_168 dX11_goRun_134 ⟨by decide, by decide⟩ rfl ?_
        refine v_iadd (n := 136) xB_168 dX11_goRun_135 (by first | omega | (simp only [sA_same, sA_s, ud_s, Int.reduceEq, if_true, if_false, ite_true, ite_false, ↓reduceIte, and_true, true_and, eq_self, Int.add_zero, Int.reduceAdd]; omega)) rfl ?_
        refine v_aload_n (n := 137) xB_168 dX11_goRun_136 rfl rfl ?_
        refine v_gf_s (n := 140) (kz := 2) xB_168 dX11_goRun_137 xO_168 fl_11_17 fg_11_2 (sh_81 _ _ _) rfl st_81_2 rfl ?_
        refine v_iload_n (n := 141) xB_168 dX11_goRun_140 rfl rfl ?_
        refine v_iaload (n := 142) (lz := 5) xB_168 dX11_goRun_141 (sh_83 _ _ _) rfl (by first | omega | (simp only [sA_same, sA_s, ud_s, Int.reduceEq, if_true, if_false, ite_true, ite_false, ↓reduceIte, and_true, true_and, eq_self, Int.add_zero, Int.reduceAdd]; omega)) rfl ?_
        refine v_iconst (n := 143) xB_168 dX11_goRun_142 ⟨by decide, by decide⟩ rfl ?_
        refine v_iadd (n := 144) xB_168 dX11_goRun_143 (by first | omega | (simp only [sA_same, sA_s, ud_s, Int.reduceEq, if_true, if_false, ite_true, ite_false, ↓reduceIte, and_true, true_and, eq_self, Int.add_zero, Int.reduceAdd]; omega)) rfl ?_
        refine v_irem (n := 145) xB_168 dX11_goRun_144 (by first | omega | (simp only [sA_same, sA_s, ud_s, Int.reduceEq, if_true, if_false, ite_true, ite_false, ↓reduceIte, and_true, true_and, eq_self, Int.add_zero, Int.reduceAdd]; omega)) rfl ?_
        refine v_if_ne (t := 152) (n := 148) xB_168 dX11_goRun_145 (by decide) rfl rfl (fun g2 => ?_) (fun g2 => ?_)
        · (try simp (disch := omega) only [sA_same, sA_ne, sA_sA, sA_sr, sB_s, ud_eq, ud_ne, ud_ud, ud_sr, uB_s, Int.add_zero, Int.reduceAdd] at g2)
          refine v_iconst (n := 153) xB_168 dX11_goRun_152 ⟨by decide, by decide⟩ rfl ?_
          refine v_istore7 (n := 155) xB_168 dX11_goRun_153 rfl rfl ?_
          refine v_iload (n := 157) xB_168 dX11_goRun_155 rfl rfl ?_
          refine v_if_ne_n (n := 160) xB_168 dX11_goRun_157 (by decide) rfl (by decide) ?_
          refine v_aload_n (n := 161) xB_168 dX11_goRun_160 rfl rfl ?_
          refine v_iload (n := 163) xB_168 dX11_goRun_161 rfl rfl ?_
          refine v_aload_n (n := 164) xB_168 dX11_goRun_163 rfl rfl ?_
          refine v_iload_n (n := 165) xB_168 dX11_goRun_164 rfl rfl ?_
          refine v_iload (n := 167) xB_168 dX11_goRun_165 rfl rfl ?_
          refine v_call_v (n := 170) xB_168 dX11_goRun_167 xO_168 iv_11_334 rfl (sh_81 _ _ _) rfl rfl rfl ?_
          refine c_told1 (by omega) (by first | omega | (simp only [sA_same, sA_s, ud_s, Int.reduceEq, if_true, if_false, ite_true, ite_false, ↓reduceIte, and_true, true_and, eq_self, Int.add_zero, Int.reduceAdd]; omega)) (by first | omega | (simp only [sA_same, sA_s, ud_s, Int.reduceEq, if_true, if_false, ite_true, ite_false, ↓reduceIte, and_true, true_and, eq_self, Int.add_zero, Int.reduceAdd]; omega)) (by first | omega | (simp only [sA_same, sA_s, ud_s, Int.reduceEq, if_true, if_false, ite_true, ite_false, ↓reduceIte, and_true, true_and, eq_self, Int.add_zero, Int.reduceAdd]; omega)) (by simp (disch := omega) only [sA_ne]; exact hr) ?_
          refine v_aload_n (n := 171) xB_168 dX11_goRun_170 rfl rfl ?_
          refine v_iload_n (n := 172) xB_168 dX11_goRun_171 rfl rfl ?_
          refine v_iconst (n := 173) xB_168 dX11_goRun_172 ⟨by decide, by decide⟩ rfl ?_
          refine v_iload (n := 175) xB_168 dX11_goRun_173 rfl rfl ?_
          refine v_iload_n (n := 176) xB_168 dX11_goRun_175 rfl rfl ?_
          refine v_aload_n (n := 177) xB_168 dX11_goRun_176 rfl rfl ?_
          refine v_gf_i (n := 180) (kz := 29) xB_168 dX11_goRun_177 xO_168 fl_11_99 fg_11_29 rfl (sh_81 _ _ _) rfl rfl ?_
          refine v_call_v (n := 183) xB_168 dX11_goRun_180 xO_168 iv_11_327 rfl (sh_81 _ _ _) rfl rfl rfl ?_
          refine c_anyHolds (by omega) (by first | omega | (simp only [sA_same, sA_s, ud_s, Int.reduceEq, if_true, if_false, ite_true, ite_false, ↓reduceIte, and_true, true_and, eq_self, Int.add_zero, Int.reduceAdd]; omega)) (of_eq' (JR_fr (m := m) (by simp (disch := omega) only [sA_ne]) ⟨by simp (disch := omega) only [sA_ne], by simp (disch := omega) only [sA_ne], by simp (disch := omega) only [sA_ne], by simp (disch := omega) only [sA_ne], by simp (disch := omega) only [sA_ne]⟩ _ _) hJ) (by first | omega | (simp only [sA_same, sA_s, ud_s, Int.reduceEq, if_true, if_false, ite_true, ite_false, ↓reduceIte, and_true, true_and, eq_self, Int.add_zero, Int.reduceAdd]; omega)) (by first | omega | (simp only [sA_same, sA_s, ud_s, Int.reduceEq, if_true, if_false, ite_true, ite_false, ↓reduceIte, and_true, true_and, eq_self, Int.add_zero, Int.reduceAdd]; omega)) (by first | omega | (simp only [sA_same, sA_s, ud_s, Int.reduceEq, if_true, if_false, ite_true, ite_false, ↓reduceIte, and_true, true_and, eq_self, Int.add_zero, Int.reduceAdd]; omega)) (fun f3 g3 => ?_) (fun f3 g4 => ?_)
          · (try simp (disch := omega) only [sA_same, sA_ne, sA_sA, sA_sr, sB_s, ud_eq, ud_ne, ud_ud, ud_sr, uB_s, Int.add_zero, Int.reduceAdd] at g3)
            (try simp (disch := omega) only [sA_same, sA_ne, sA_sA, sA_sr, sB_s, ud_eq, ud_ne, ud_ud, ud_sr, uB_s, Int.add_zero, Int.reduceAdd])
            refine v_call_v (n := 186) xB_168 dX11_goRun_183 xO_168 iv_11_338 rfl (sh_81 _ _ _) rfl rfl rfl ?_
            refine c_prints (by omega) (by first | omega | (simp only [sA_same, sA_s, ud_s, Int.reduceEq, if_true, if_false, ite_true, ite_false, ↓reduceIte, and_true, true_and, eq_self, Int.add_zero, Int.reduceAdd]; omega)) (mnmo (by omega) (hr _).1) (by decide) (by first | omega | (simp only [sA_same, sA_s, ud_s, Int.reduceEq, if_true, if_false, ite_true, ite_false, ↓reduceIte, and_true, true_and, eq_self, Int.add_zero, Int.reduceAdd]; omega)) (by simp (disch := omega) only [sA_ne, sA_same]; assumption) (by simp (disch := omega) only [sA_ne, sA_same]; assumption) (fun sd1 dn1 hdn1 hsd1 hpk1 => ?_)
            (try simp (disch := omega) only [sA_same, sA_ne, sA_sA, sA_sr, sB_s, ud_eq, ud_ne, ud_ud, ud_sr, uB_s, Int.add_zero, Int.reduceAdd])
            refine v_iinc5 (n := 189) xB_168 dX11_goRun_186 rfl (by first | omega | (simp only [sA_same, sA_s, ud_s, Int.reduceEq, if_true, if_false, ite_true, ite_false, ↓reduceIte, and_true, true_and, eq_self, Int.add_zero, Int.reduceAdd]; omega)) rfl ?_
            refine v_aload_n (n := 190) xB_168 dX11_goRun_189 rfl rfl ?_
            refine v_iload (n := 192) xB_168 dX11_goRun_190 rfl rfl ?_
            refine v_iload_n (n := 193) xB_168 dX11_goRun_192 rfl rfl ?_
            refine v_call_v (n := 196) xB_168 dX11_goRun_193 xO_168 iv_11_342 rfl (sh_81 _ _ _) rfl rfl rfl ?_
            refine c_putsOut (by omega) (by first | omega | (simp only [sA_same, sA_s, ud_s, Int.reduceEq, if_true, if_false, ite_true, ite_false, ↓reduceIte, and_true, true_and, eq_self, Int.add_zero, Int.reduceAdd]; omega)) (by first | omega | (simp only [sA_same, sA_s, ud_s, Int.reduceEq, if_true, if_false, ite_true, ite_false, ↓reduceIte, and_true, true_and, eq_self, Int.add_zero, Int.reduceAdd]; omega)) (by first | omega | (simp only [sA_same, sA_s, ud_s, Int.reduceEq, if_true, if_false, ite_true, ite_false, ↓reduceIte, and_true, true_and, eq_self, Int.add_zero, Int.reduceAdd]; omega)) (by first | omega | (simp only [sA_same, sA_s, ud_s, Int.reduceEq, if_true, if_false, ite_true, ite_false, ↓reduceIte, and_true, true_and, eq_self, Int.add_zero, Int.reduceAdd]; omega)) (by simp (disch := omega) only [sA_ne, sA_same]; assumption) (by simp (disch := omega) only [sA_ne, sA_same]; assumption) (by simp (disch := omega) only [sA_ne, sA_same]; assumption) (by simp (disch := omega) only [sA_ne, sA_same]; assumption) (fun sd2 dn2 od2 on2 hdn2 hsd2 hon2 hod2 hpk2 hpo2 => ?_)
            (try simp (disch := omega) only [sA_same, sA_ne, sA_sA, sA_sr, sB_s, ud_eq, ud_ne, ud_ud, ud_sr, uB_s, Int.add_zero, Int.reduceAdd])
            refine v_aload_n (n := 197) xB_168 dX11_goRun_196 rfl rfl ?_
            refine v_iload_n (n := 198) xB_168 dX11_goRun_197 rfl rfl ?_
            refine v_iload (n := 200) xB_168 dX11_goRun_198 rfl rfl ?_
            refine v_iload_n (n := 201) xB_168 dX11_goRun_200 rfl rfl ?_
            refine v_call_v (n := 204) xB_168 dX11_goRun_201 xO_168 iv_11_331 rfl (sh_81 _ _ _) rfl rfl rfl ?_
            refine c_goesOn (by omega) (by first | omega | (simp only [sA_same, sA_s, ud_s, Int.reduceEq, if_true, if_false, ite_true, ite_false, ↓reduceIte, and_true, true_and, eq_self, Int.add_zero, Int.reduceAdd]; omega)) (of_eq' (JR_fr (m := m) (by simp (disch := omega) only [sA_ne]) ⟨by simp (disch := omega) only [sA_ne], by simp (disch := omega) only [sA_ne], by simp (disch := omega) only [sA_ne], by simp (disch := omega) only [sA_ne], by simp (disch := omega) only [sA_ne]⟩ _ _) hJ) (by first | omega | (simp only [sA_same, sA_s, ud_s, Int.reduceEq, if_true, if_false, ite_true, ite_false, ↓reduceIte, and_true, true_and, eq_self, Int.add_zero, Int.reduceAdd]; omega)) (by first | omega | (simp only [sA_same, sA_s, ud_s, Int.reduceEq, if_true, if_false, ite_true, ite_false, ↓reduceIte, and_true, true_and, eq_self, Int.add_zero, Int.reduceAdd]; omega)) (fun f5 => ?_)
            (try simp (disch := omega) only [sA_same, sA_ne, sA_sA, sA_sr, sB_s, ud_eq, ud_ne, ud_ud, ud_sr, uB_s, Int.add_zero, Int.reduceAdd])
            refine v_istore5 (n := 206) xB_168 dX11_goRun_204 rfl rfl ?_
            refine v_goto (t := 33) xB_168 dX11_goRun_206 (by decide) rfl ?_
            have hd0 : dryF (m 82 t) (m 83 t) n = false := by unfold dryF; exact decide_eq_false (by omega)
            rw [hd0, if_neg (by decide)] at hpg1 hpr1
            simp (disch := omega) only [sA_same, sA_ne, sA_sA, sA_sr, sB_s, ud_eq, ud_ne, ud_ud, ud_sr, uB_s, Int.add_zero, Int.reduceAdd] at hpk2 hpo2
            first | rw [show decide ((1 : Int) = 1) = true from rfl] at hpk1 | rw [show decide ((0 : Int) = 1) = false from rfl] at hpk1
            simp (disch := omega) only [sA_same, sA_ne, sA_sA, sA_sr, sB_s, ud_eq, ud_ne, ud_ud, ud_sr, uB_s, Int.add_zero, Int.reduceAdd] at hpk1
            rw [← hpr1, ← Int.natCast_succ]
            have hs1 : spF (m 82 t) (m 83 t) CL n = false := by unfold spF; exact decide_eq_false (by omega)
            have hix : (if m 82 t = 4 then m 81 22 - 1 - (n : Int) else n) = top := by first | rw [if_pos hk, hs0] | rw [if_neg (by omega), hs0]
            refine ih (n + 1) _ _ _ _ _ _ _ _ _ _ _ (by omega) (hgo hs1) (by unfold qF; rw [hpg1]) ?_ ?_ hdn2 hsd2 hon2 hod2 ?_ ?_
            · first | (rw [if_pos hk]; omega) | (rw [if_neg (by omega)]; omega)
            · first | (rw [if_pos hk]; omega) | (rw [if_neg (by omega)]; omega)
            · intro s h1 h2
              rw [hpk2 s (by omega), hpk1, if_neg (by omega)]
              exact hl s (by omega) (by omega)
            · intro i hi
              rw [hpo2]
              by_cases hx : (i : Int) = n
              · have hi2 : i = n := by omega
                subst hi2
                rw [if_pos rfl, hpk1, if_pos rfl, hl _ (by omega) (by omega)]
                unfold oF
                rw [hd0, if_neg (by decide), ← hpg, hix]
                first | rw [show anyW CL 3 pg (m 82 t) (m 83 t) i = true from by assumption] | rw [show anyW CL 3 pg (m 82 t) (m 83 t) i = false from by assumption]
                rfl
              · rw [if_neg hx]
                exact ho i (by omega)
          · (try simp (disch := omega) only [sA_same, sA_ne, sA_sA, sA_sr, sB_s, ud_eq, ud_ne, ud_ud, ud_sr, uB_s, Int.add_zero, Int.reduceAdd] at g4)
            (try simp (disch := omega) only [sA_same, sA_ne, sA_sA, sA_sr, sB_s, ud_eq, ud_ne, ud_ud, ud_sr, uB_s, Int.add_zero, Int.reduceAdd])
            refine v_call_v (n := 186) xB_168 dX11_goRun_183 xO_168 iv_11_338 rfl (sh_81 _ _ _) rfl rfl rfl ?_
            refine c_prints (by omega) (by first | omega | (simp only [sA_same, sA_s, ud_s, Int.reduceEq, if_true, if_false, ite_true, ite_false, ↓reduceIte, and_true, true_and, eq_self, Int.add_zero, Int.reduceAdd]; omega)) (mnmo (by omega) (hr _).1) (by decide) (by first | omega | (simp only [sA_same, sA_s, ud_s, Int.reduceEq, if_true, if_false, ite_true, ite_false, ↓reduceIte, and_true, true_and, eq_self, Int.add_zero, Int.reduceAdd]; omega)) (by simp (disch := omega) only [sA_ne, sA_same]; assumption) (by simp (disch := omega) only [sA_ne, sA_same]; assumption) (fun sd1 dn1 hdn1 hsd1 hpk1 => ?_)
            (try simp (disch := omega) only [sA_same, sA_ne, sA_sA, sA_sr, sB_s, ud_eq, ud_ne, ud_ud, ud_sr, uB_s, Int.add_zero, Int.reduceAdd])
            refine v_iinc5 (n := 189) xB_168 dX11_goRun_186 rfl (by first | omega | (simp only [sA_same, sA_s, ud_s, Int.reduceEq, if_true, if_false, ite_true, ite_false, ↓reduceIte, and_true, true_and, eq_self, Int.add_zero, Int.reduceAdd]; omega)) rfl ?_
            refine v_aload_n (n := 190) xB_168 dX11_goRun_189 rfl rfl ?_
            refine v_iload (n := 192) xB_168 dX11_goRun_190 rfl rfl ?_
            refine v_iload_n (n := 193) xB_168 dX11_goRun_192 rfl rfl ?_
            refine v_call_v (n := 196) xB_168 dX11_goRun_193 xO_168 iv_11_342 rfl (sh_81 _ _ _) rfl rfl rfl ?_
            refine c_putsOut (by omega) (by first | omega | (simp only [sA_same, sA_s, ud_s, Int.reduceEq, if_true, if_false, ite_true, ite_false, ↓reduceIte, and_true, true_and, eq_self, Int.add_zero, Int.reduceAdd]; omega)) (by first | omega | (simp only [sA_same, sA_s, ud_s, Int.reduceEq, if_true, if_false, ite_true, ite_false, ↓reduceIte, and_true, true_and, eq_self, Int.add_zero, Int.reduceAdd]; omega)) (by first | omega | (simp only [sA_same, sA_s, ud_s, Int.reduceEq, if_true, if_false, ite_true, ite_false, ↓reduceIte, and_true, true_and, eq_self, Int.add_zero, Int.reduceAdd]; omega)) (by first | omega | (simp only [sA_same, sA_s, ud_s, Int.reduceEq, if_true, if_false, ite_true, ite_false, ↓reduceIte, and_true, true_and, eq_self, Int.add_zero, Int.reduceAdd]; omega)) (by simp (disch := omega) only [sA_ne, sA_same]; assumption) (by simp (disch := omega) only [sA_ne, sA_same]; assumption) (by simp (disch := omega) only [sA_ne, sA_same]; assumption) (by simp (disch := omega) only [sA_ne, sA_same]; assumption) (fun sd2 dn2 od2 on2 hdn2 hsd2 hon2 hod2 hpk2 hpo2 => ?_)
            (try simp (disch := omega) only [sA_same, sA_ne, sA_sA, sA_sr, sB_s, ud_eq, ud_ne, ud_ud, ud_sr, uB_s, Int.add_zero, Int.reduceAdd])
            refine v_aload_n (n := 197) xB_168 dX11_goRun_196 rfl rfl ?_
            refine v_iload_n (n := 198) xB_168 dX11_goRun_197 rfl rfl ?_
            refine v_iload (n := 200) xB_168 dX11_goRun_198 rfl rfl ?_
            refine v_iload_n (n := 201) xB_168 dX11_goRun_200 rfl rfl ?_
            refine v_call_v (n := 204) xB_168 dX11_goRun_201 xO_168 iv_11_331 rfl (sh_81 _ _ _) rfl rfl rfl ?_
            refine c_goesOn (by omega) (by first | omega | (simp only [sA_same, sA_s, ud_s, Int.reduceEq, if_true, if_false, ite_true, ite_false, ↓reduceIte, and_true, true_and, eq_self, Int.add_zero, Int.reduceAdd]; omega)) (of_eq' (JR_fr (m := m) (by simp (disch := omega) only [sA_ne]) ⟨by simp (disch := omega) only [sA_ne], by simp (disch := omega) only [sA_ne], by simp (disch := omega) only [sA_ne], by simp (disch := omega) only [sA_ne], by simp (disch := omega) only [sA_ne]⟩ _ _) hJ) (by first | omega | (simp only [sA_same, sA_s, ud_s, Int.reduceEq, if_true, if_false, ite_true, ite_false, ↓reduceIte, and_true, true_and, eq_self, Int.add_zero, Int.reduceAdd]; omega)) (by first | omega | (simp only [sA_same, sA_s, ud_s, Int.reduceEq, if_true, if_false, ite_true, ite_false, ↓reduceIte, and_true, true_and, eq_self, Int.add_zero, Int.reduceAdd]; omega)) (fun f5 => ?_)
            (try simp (disch := omega) only [sA_same, sA_ne, sA_sA, sA_sr, sB_s, ud_eq, ud_ne, ud_ud, ud_sr, uB_s, Int.add_zero, Int.reduceAdd])
            refine v_istore5 (n := 206) xB_168 dX11_goRun_204 rfl rfl ?_
            refine v_goto (t := 33) xB_168 dX11_goRun_206 (by decide) rfl ?_
            have hd0 : dryF (m 82 t) (m 83 t) n = false := by unfold dryF; exact decide_eq_false (by omega)
            rw [hd0, if_neg (by decide)] at hpg1 hpr1
            simp (disch := omega) only [sA_same, sA_ne, sA_sA, sA_sr, sB_s, ud_eq, ud_ne, ud_ud, ud_sr, uB_s, Int.add_zero, Int.reduceAdd] at hpk2 hpo2
            first | rw [show decide ((1 : Int) = 1) = true from rfl] at hpk1 | rw [show decide ((0 : Int) = 1) = false from rfl] at hpk1
            simp (disch := omega) only [sA_same, sA_ne, sA_sA, sA_sr, sB_s, ud_eq, ud_ne, ud_ud, ud_sr, uB_s, Int.add_zero, Int.reduceAdd] at hpk1
            rw [← hpr1, ← Int.natCast_succ]
            have hs1 : spF (m 82 t) (m 83 t) CL n = false := by unfold spF; exact decide_eq_false (by omega)
            have hix : (if m 82 t = 4 then m 81 22 - 1 - (n : Int) else n) = top := by first | rw [if_pos hk, hs0] | rw [if_neg (by omega), hs0]
            refine ih (n + 1) _ _ _ _ _ _ _ _ _ _ _ (by omega) (hgo hs1) (by unfold qF; rw [hpg1]) ?_ ?_ hdn2 hsd2 hon2 hod2 ?_ ?_
            · first | (rw [if_pos hk]; omega) | (rw [if_neg (by omega)]; omega)
            · first | (rw [if_pos hk]; omega) | (rw [if_neg (by omega)]; omega)
            · intro s h1 h2
              rw [hpk2 s (by omega), hpk1, if_neg (by omega)]
              exact hl s (by omega) (by omega)
            · intro i hi
              rw [hpo2]
              by_cases hx : (i : Int) = n
              · have hi2 : i = n := by omega
                subst hi2
                rw [if_pos rfl, hpk1, if_pos rfl, hl _ (by omega) (by omega)]
                unfold oF
                rw [hd0, if_neg (by decide), ← hpg, hix]
                first | rw [show anyW CL 3 pg (m 82 t) (m 83 t) i = true from by assumption] | rw [show anyW CL 3 pg (m 82 t) (m 83 t) i = false from by assumption]
                rfl
              · rw [if_neg hx]
                exact ho i (by omega)
        · (try simp (disch := omega) only [sA_same, sA_ne, sA_sA, sA_sr, sB_s, ud_eq, ud_ne, ud_ud, ud_sr, uB_s, Int.add_zero, Int.reduceAdd] at g2)
          refine v_iconst (n := 149) xB_168 dX11_goRun_148 ⟨by decide, by decide⟩ rfl ?_
          refine v_goto (t := 153) xB_168 dX11_goRun_149 (by decide) rfl ?_
          refine v_istore7 (n := 155) xB_168 dX11_goRun_153 rfl rfl ?_
          refine v_iload (n := 157) xB_168 dX11_goRun_155 rfl rfl ?_
          refine v_if_ne_y (t := 189) xB_168 dX11_goRun_157 (by decide) rfl (by decide) ?_
          refine v_aload_n (n := 190) xB_168 dX11_goRun_189 rfl rfl ?_
          refine v_iload (n := 192) xB_168 dX11_goRun_190 rfl rfl ?_
          refine v_iload_n (n := 193) xB_168 dX11_goRun_192 rfl rfl ?_
          refine v_call_v (n := 196) xB_168 dX11_goRun_193 xO_168 iv_11_342 rfl (sh_81 _ _ _) rfl rfl rfl ?_
          refine c_putsOut (by omega) (by first | omega | (simp only [sA_same, sA_s, ud_s, Int.reduceEq, if_true, if_false, ite_true, ite_false, ↓reduceIte, and_true, true_and, eq_self, Int.add_zero, Int.reduceAdd]; omega)) (by first | omega | (simp only [sA_same, sA_s, ud_s, Int.reduceEq, if_true, if_false, ite_true, ite_false, ↓reduceIte, and_true, true_and, eq_self, Int.add_zero, Int.reduceAdd]; omega)) (by first | omega | (simp only [sA_same, sA_s, ud_s, Int.reduceEq, if_true, if_false, ite_true, ite_false, ↓reduceIte, and_true, true_and, eq_self, Int.add_zero, Int.reduceAdd]; omega)) (by first | omega | (simp only [sA_same, sA_s, ud_s, Int.reduceEq, if_true, if_false, ite_true, ite_false, ↓reduceIte, and_true, true_and, eq_self, Int.add_zero, Int.reduceAdd]; omega)) (by simp (disch := omega) only [sA_ne, sA_same]; assumption) (by simp (disch := omega) only [sA_ne, sA_same]; assumption) (by simp (disch := omega) only [sA_ne, sA_same]; assumption) (by simp (disch := omega) only [sA_ne, sA_same]; assumption) (fun sd2 dn2 od2 on2 hdn2 hsd2 hon2 hod2 hpk2 hpo2 => ?_)
          (try simp (disch := omega) only [sA_same, sA_ne, sA_sA, sA_sr, sB_s, ud_eq, ud_ne, ud_ud, ud_sr, uB_s, Int.add_zero, Int.reduceAdd])
          refine v_aload_n (n := 197) xB_168 dX11_goRun_196 rfl rfl ?_
          refine v_iload_n (n := 198) xB_168 dX11_goRun_197 rfl rfl ?_
          refine v_iload (n := 200) xB_168 dX11_goRun_198 rfl rfl ?_
          refine v_iload_n (n := 201) xB_168 dX11_goRun_200 rfl rfl ?_
          refine v_call_v (n := 204) xB_168 dX11_goRun_201 xO_168 iv_11_331 rfl (sh_81 _ _ _) rfl rfl rfl ?_
          refine c_goesOn (by omega) (by first | omega | (simp only [sA_same, sA_s, ud_s, Int.reduceEq, if_true, if_false, ite_true, ite_false, ↓reduceIte, and_true, true_and, eq_self, Int.add_zero, Int.reduceAdd]; omega)) (of_eq' (JR_fr (m := m) (by simp (disch := omega) only [sA_ne]) ⟨by simp (disch := omega) only [sA_ne], by simp (disch := omega) only [sA_ne], by simp (disch := omega) only [sA_ne], by simp (disch := omega) only [sA_ne], by simp (disch := omega) only [sA_ne]⟩ _ _) hJ) (by first | omega | (simp only [sA_same, sA_s, ud_s, Int.reduceEq, if_true, if_false, ite_true, ite_false, ↓reduceIte, and_true, true_and, eq_self, Int.add_zero, Int.reduceAdd]; omega)) (by first | omega | (simp only [sA_same, sA_s, ud_s, Int.reduceEq, if_true, if_false, ite_true, ite_false, ↓reduceIte, and_true, true_and, eq_self, Int.add_zero, Int.reduceAdd]; omega)) (fun f5 => ?_)
          (try simp (disch := omega) only [sA_same, sA_ne, sA_sA, sA_sr, sB_s, ud_eq, ud_ne, ud_ud, ud_sr, uB_s, Int.add_zero, Int.reduceAdd])
          refine v_istore5 (n := 206) xB_168 dX11_goRun_204 rfl rfl ?_
          refine v_goto (t := 33) xB_168 dX11_goRun_206 (by decide) rfl ?_
          have hd0 : dryF (m 82 t) (m 83 t) n = true := by unfold dryF; exact decide_eq_true (by omega)
          rw [hd0, if_pos rfl] at hpg1 hpr1
          simp (disch := omega) only [sA_same, sA_ne, sA_sA, sA_sr, sB_s, ud_eq, ud_ne, ud_ud, ud_sr, uB_s, Int.add_zero, Int.reduceAdd] at hpk2 hpo2
          rw [← hpr1, ← Int.natCast_succ]
          have hs1 : spF (m 82 t) (m 83 t) CL n = false := by unfold spF; exact decide_eq_false (by omega)
          have hix : (if m 82 t = 4 then m 81 22 - 1 - (n : Int) else n) = top := by first | rw [if_pos hk, hs0] | rw [if_neg (by omega), hs0]
          refine ih (n + 1) _ _ _ _ _ _ _ _ _ _ _ (by omega) (hgo hs1) (by unfold qF; rw [hpg1]) ?_ ?_ hdn2 hsd2 hon2 hod2 ?_ ?_
          · first | (rw [if_pos hk]; omega) | (rw [if_neg (by omega)]; omega)
          · first | (rw [if_pos hk]; omega) | (rw [if_neg (by omega)]; omega)
          · intro s h1 h2
            rw [hpk2 s (by omega)]
            exact hl s (by omega) (by omega)
          · intro i hi
            rw [hpo2]
            by_cases hx : (i : Int) = n
            · have hi2 : i = n := by omega
              subst hi2
              rw [if_pos rfl, hl _ (by omega) (by omega)]
              unfold oF
              rw [hd0, if_pos rfl, hix]
            · rw [if_neg hx]
              exact ho i (by omega)
    · have hs0 : top = n := by rw [htop, if_neg (by omega)]
      have ht0 : low = m 81 22 - 1 := by rw [hlow, if_neg (by omega)]
      refine v_iload (n := 35) xB_168 dX11_goRun_33 rfl rfl ?_
      refine v_aload_n (n := 36) xB_168 dX11_goRun_35 rfl rfl ?_
      refine v_iload_n (n := 37) xB_168 dX11_goRun_36 rfl rfl ?_
      refine v_call_v (n := 40) xB_168 dX11_goRun_37 xO_168 iv_11_289 rfl (sh_81 _ _ _) rfl rfl rfl ?_
      refine c_last (by omega) (by first | omega | (simp only [sA_same, sA_s, ud_s, Int.reduceEq, if_true, if_false, ite_true, ite_false, ↓reduceIte, and_true, true_and, eq_self, Int.add_zero, Int.reduceAdd]; omega)) (of_eq' (JR_fr (m := m) (by simp (disch := omega) only [sA_ne]) ⟨by simp (disch := omega) only [sA_ne], by simp (disch := omega) only [sA_ne], by simp (disch := omega) only [sA_ne], by simp (disch := omega) only [sA_ne], by simp (disch := omega) only [sA_ne]⟩ _ _) hJ) ?_
      refine v_ic_gt (t := 209) (n := 43) xB_168 dX11_goRun_40 (by decide) rfl rfl (fun g1 => ?_) (fun g1 => ?_)
      · (try simp (disch := omega) only [sA_same, sA_ne, sA_sA, sA_sr, sB_s, ud_eq, ud_ne, ud_ud, ud_sr, uB_s, Int.add_zero, Int.reduceAdd] at g1)
        have hs : n = T := hst (by unfold spF; exact decide_eq_true (by omega))
        subst hs
        exact hE _ _ _ _ _ _ _ _ _ _ _ htop hlow hdn hsd hon hod hl ho
      · (try simp (disch := omega) only [sA_same, sA_ne, sA_sA, sA_sr, sB_s, ud_eq, ud_ne, ud_ud, ud_sr, uB_s, Int.add_zero, Int.reduceAdd] at g1)
        refine v_iload_n (n := 44) xB_168 dX11_goRun_43 rfl rfl ?_
        refine v_iload (n := 46) xB_168 dX11_goRun_44 rfl rfl ?_
        refine v_ic_gt_n (n := 49) xB_168 dX11_goRun_46 (by decide) rfl (by first | omega | (simp only [sA_same, sA_s, ud_s, Int.reduceEq, if_true, if_false, ite_true, ite_false, ↓reduceIte, and_true, true_and, eq_self, Int.add_zero, Int.reduceAdd]; omega)) ?_
        refine v_aload_n (n := 50) xB_168 dX11_goRun_49 rfl rfl ?_
        refine v_gf_s (n := 53) (kz := 1) xB_168 dX11_goRun_50 xO_168 fl_11_13 fg_11_1 (sh_81 _ _ _) rfl st_81_1 rfl ?_
        refine v_iload_n (n := 54) xB_168 dX11_goRun_53 rfl rfl ?_
        refine v_iaload (n := 55) (lz := 5) xB_168 dX11_goRun_54 (sh_82 _ _ _) rfl (by first | omega | (simp only [sA_same, sA_s, ud_s, Int.reduceEq, if_true, if_false, ite_true, ite_false, ↓reduceIte, and_true, true_and, eq_self, Int.add_zero, Int.reduceAdd]; omega)) rfl ?_
        refine v_iconst (n := 56) xB_168 dX11_goRun_55 ⟨by decide, by decide⟩ rfl ?_
        refine v_ic_ne_y (t := 72) xB_168 dX11_goRun_56 (by decide) rfl (by first | omega | (simp only [sA_same, sA_s, ud_s, Int.reduceEq, if_true, if_false, ite_true, ite_false, ↓reduceIte, and_true, true_and, eq_self, Int.add_zero, Int.reduceAdd]; omega)) ?_
        refine v_aload_n (n := 73) xB_168 dX11_goRun_72 rfl rfl ?_
        refine v_gf_s (n := 76) (kz := 1) xB_168 dX11_goRun_73 xO_168 fl_11_13 fg_11_1 (sh_81 _ _ _) rfl st_81_1 rfl ?_
        refine v_iload_n (n := 77) xB_168 dX11_goRun_76 rfl rfl ?_
        refine v_iaload (n := 78) (lz := 5) xB_168 dX11_goRun_77 (sh_82 _ _ _) rfl (by first | omega | (simp only [sA_same, sA_s, ud_s, Int.reduceEq, if_true, if_false, ite_true, ite_false, ↓reduceIte, and_true, true_and, eq_self, Int.add_zero, Int.reduceAdd]; omega)) rfl ?_
        refine v_iconst (n := 79) xB_168 dX11_goRun_78 ⟨by decide, by decide⟩ rfl ?_
        refine v_ic_ne_y (t := 87) xB_168 dX11_goRun_79 (by decide) rfl (by first | omega | (simp only [sA_same, sA_s, ud_s, Int.reduceEq, if_true, if_false, ite_true, ite_false, ↓reduceIte, and_true, true_and, eq_self, Int.add_zero, Int.reduceAdd]; omega)) ?_
        refine v_iload_n (n := 88) xB_168 dX11_goRun_87 rfl rfl ?_
        refine v_istore6 (n := 90) xB_168 dX11_goRun_88 rfl rfl ?_
        refine v_aload_n (n := 91) xB_168 dX11_goRun_90 rfl rfl ?_
        refine v_gf_s (n := 94) (kz := 1) xB_168 dX11_goRun_91 xO_168 fl_11_13 fg_11_1 (sh_81 _ _ _) rfl st_81_1 rfl ?_
        refine v_iload_n (n := 95) xB_168 dX11_goRun_94 rfl rfl ?_
        refine v_iaload (n := 96) (lz := 5) xB_168 dX11_goRun_95 (sh_82 _ _ _) rfl (by first | omega | (simp only [sA_same, sA_s, ud_s, Int.reduceEq, if_true, if_false, ite_true, ite_false, ↓reduceIte, and_true, true_and, eq_self, Int.add_zero, Int.reduceAdd]; omega)) rfl ?_
        refine v_iconst (n := 97) xB_168 dX11_goRun_96 ⟨by decide, by decide⟩ rfl ?_
        refine v_ic_ne_y (t := 106) xB_168 dX11_goRun_97 (by decide) rfl (by first | omega | (simp only [sA_same, sA_s, ud_s, Int.reduceEq, if_true, if_false, ite_true, ite_false, ↓reduceIte, and_true, true_and, eq_self, Int.add_zero, Int.reduceAdd]; omega)) ?_
        refine v_iinc3 (n := 109) xB_168 dX11_goRun_106 rfl (by first | omega | (simp only [sA_same, sA_s, ud_s, Int.reduceEq, if_true, if_false, ite_true, ite_false, ↓reduceIte, and_true, true_and, eq_self, Int.add_zero, Int.reduceAdd]; omega)) rfl ?_
        refine v_aload_n (n := 110) xB_168 dX11_goRun_109 rfl rfl ?_
        refine v_gf_s (n := 113) (kz := 1) xB_168 dX11_goRun_110 xO_168 fl_11_13 fg_11_1 (sh_81 _ _ _) rfl st_81_1 rfl ?_
        refine v_iload_n (n := 114) xB_168 dX11_goRun_113 rfl rfl ?_
        refine v_iaload (n := 115) (lz := 5) xB_168 dX11_goRun_114 (sh_82 _ _ _) rfl (by first | omega | (simp only [sA_same, sA_s, ud_s, Int.reduceEq, if_true, if_false, ite_true, ite_false, ↓reduceIte, and_true, true_and, eq_self, Int.add_zero, Int.reduceAdd]; omega)) rfl ?_
        refine v_iconst (n := 116) xB_168 dX11_goRun_115 ⟨by decide, by decide⟩ rfl ?_
        refine v_ic_eq_n (n := 119) xB_168 dX11_goRun_116 (by decide) rfl (by first | omega | (simp only [sA_same, sA_s, ud_s, Int.reduceEq, if_true, if_false, ite_true, ite_false, ↓reduceIte, and_true, true_and, eq_self, Int.add_zero, Int.reduceAdd]; omega)) ?_
        refine v_aload_n (n := 120) xB_168 dX11_goRun_119 rfl rfl ?_
        refine v_gf_s (n := 123) (kz := 1) xB_168 dX11_goRun_120 xO_168 fl_11_13 fg_11_1 (sh_81 _ _ _) rfl st_81_1 rfl ?_
        refine v_iload_n (n := 124) xB_168 dX11_goRun_123 rfl rfl ?_
        refine v_iaload (n := 125) (lz := 5) xB_168 dX11_goRun_124 (sh_82 _ _ _) rfl (by first | omega | (simp only [sA_same, sA_s, ud_s, Int.reduceEq, if_true, if_false, ite_true, ite_false, ↓reduceIte, and_true, true_and, eq_self, Int.add_zero, Int.reduceAdd]; omega)) rfl ?_
        refine v_bipush (n := 127) xB_168 dX11_goRun_125 ⟨by decide, by decide⟩ rfl ?_
        refine v_ic_ne_y (t := 152) xB_168 dX11_goRun_127 (by decide) rfl (by first | omega | (simp only [sA_same, sA_s, ud_s, Int.reduceEq, if_true, if_false, ite_true, ite_false, ↓reduceIte, and_true, true_and, eq_self, Int.add_zero, Int.reduceAdd]; omega)) ?_
        refine v_iconst (n := 153) xB_168 dX11_goRun_152 ⟨by decide, by decide⟩ rfl ?_
        refine v_istore7 (n := 155) xB_168 dX11_goRun_153 rfl rfl ?_
        refine v_iload (n := 157) xB_168 dX11_goRun_155 rfl rfl ?_
        refine v_if_ne_n (n := 160) xB_168 dX11_goRun_157 (by decide) rfl (by decide) ?_
        refine v_aload_n (n := 161) xB_168 dX11_goRun_160 rfl rfl ?_
        refine v_iload (n := 163) xB_168 dX11_goRun_161 rfl rfl ?_
        refine v_aload_n (n := 164) xB_168 dX11_goRun_163 rfl rfl ?_
        refine v_iload_n (n := 165) xB_168 dX11_goRun_164 rfl rfl ?_
        refine v_iload (n := 167) xB_168 dX11_goRun_165 rfl rfl ?_
        refine v_call_v (n := 170) xB_168 dX11_goRun_167 xO_168 iv_11_334 rfl (sh_81 _ _ _) rfl rfl rfl ?_
        refine c_told1 (by omega) (by first | omega | (simp only [sA_same, sA_s, ud_s, Int.reduceEq, if_true, if_false, ite_true, ite_false, ↓reduceIte, and_true, true_and, eq_self, Int.add_zero, Int.reduceAdd]; omega)) (by first | omega | (simp only [sA_same, sA_s, ud_s, Int.reduceEq, if_true, if_false, ite_true, ite_false, ↓reduceIte, and_true, true_and, eq_self, Int.add_zero, Int.reduceAdd]; omega)) (by first | omega | (simp only [sA_same, sA_s, ud_s, Int.reduceEq, if_true, if_false, ite_true, ite_false, ↓reduceIte, and_true, true_and, eq_self, Int.add_zero, Int.reduceAdd]; omega)) (by simp (disch := omega) only [sA_ne]; exact hr) ?_
        refine v_aload_n (n := 171) xB_168 dX11_goRun_170 rfl rfl ?_
        refine v_iload_n (n := 172) xB_168 dX11_goRun_171 rfl rfl ?_
        refine v_iconst (n := 173) xB_168 dX11_goRun_172 ⟨by decide, by decide⟩ rfl ?_
        refine v_iload (n := 175) xB_168 dX11_goRun_173 rfl rfl ?_
        refine v_iload_n (n := 176) xB_168 dX11_goRun_175 rfl rfl ?_
        refine v_aload_n (n := 177) xB_168 dX11_goRun_176 rfl rfl ?_
        refine v_gf_i (n := 180) (kz := 29) xB_168 dX11_goRun_177 xO_168 fl_11_99 fg_11_29 rfl (sh_81 _ _ _) rfl rfl ?_
        refine v_call_v (n := 183) xB_168 dX11_goRun_180 xO_168 iv_11_327 rfl (sh_81 _ _ _) rfl rfl rfl ?_
        refine c_anyHolds (by omega) (by first | omega | (simp only [sA_same, sA_s, ud_s, Int.reduceEq, if_true, if_false, ite_true, ite_false, ↓reduceIte, and_true, true_and, eq_self, Int.add_zero, Int.reduceAdd]; omega)) (of_eq' (JR_fr (m := m) (by simp (disch := omega) only [sA_ne]) ⟨by simp (disch := omega) only [sA_ne], by simp (disch := omega) only [sA_ne], by simp (disch := omega) only [sA_ne], by simp (disch := omega) only [sA_ne], by simp (disch := omega) only [sA_ne]⟩ _ _) hJ) (by first | omega | (simp only [sA_same, sA_s, ud_s, Int.reduceEq, if_true, if_false, ite_true, ite_false, ↓reduceIte, and_true, true_and, eq_self, Int.add_zero, Int.reduceAdd]; omega)) (by first | omega | (simp only [sA_same, sA_s, ud_s, Int.reduceEq, if_true, if_false, ite_true, ite_false, ↓reduceIte, and_true, true_and, eq_self, Int.add_zero, Int.reduceAdd]; omega)) (by first | omega | (simp only [sA_same, sA_s, ud_s, Int.reduceEq, if_true, if_false, ite_true, ite_false, ↓reduceIte, and_true, true_and, eq_self, Int.add_zero, Int.reduceAdd]; omega)) (fun f3 g2 => ?_) (fun f3 g3 => ?_)
        · (try simp (disch := omega) only [sA_same, sA_ne, sA_sA, sA_sr, sB_s, ud_eq, ud_ne, ud_ud, ud_sr, uB_s, Int.add_zero, Int.reduceAdd] at g2)
          (try simp (disch := omega) only [sA_same, sA_ne, sA_sA, sA_sr, sB_s, ud_eq, ud_ne, ud_ud, ud_sr, uB_s, Int.add_zero, Int.reduceAdd])
          refine v_call_v (n := 186) xB_168 dX11_goRun_183 xO_168 iv_11_338 rfl (sh_81 _ _ _) rfl rfl rfl ?_
          refine c_prints (by omega) (by first | omega | (simp only [sA_same, sA_s, ud_s, Int.reduceEq, if_true, if_false, ite_true, ite_false, ↓reduceIte, and_true, true_and, eq_self, Int.add_zero, Int.reduceAdd]; omega)) (mnmo (by omega) (hr _).1) (by decide) (by first | omega | (simp only [sA_same, sA_s, ud_s, Int.reduceEq, if_true, if_false, ite_true, ite_false, ↓reduceIte, and_true, true_and, eq_self, Int.add_zero, Int.reduceAdd]; omega)) (by simp (disch := omega) only [sA_ne, sA_same]; assumption) (by simp (disch := omega) only [sA_ne, sA_same]; assumption) (fun sd1 dn1 hdn1 hsd1 hpk1 => ?_)
          (try simp (disch := omega) only [sA_same, sA_ne, sA_sA, sA_sr, sB_s, ud_eq, ud_ne, ud_ud, ud_sr, uB_s, Int.add_zero, Int.reduceAdd])
          refine v_iinc5 (n := 189) xB_168 dX11_goRun_186 rfl (by first | omega | (simp only [sA_same, sA_s, ud_s, Int.reduceEq, if_true, if_false, ite_true, ite_false, ↓reduceIte, and_true, true_and, eq_self, Int.add_zero, Int.reduceAdd]; omega)) rfl ?_
          refine v_aload_n (n := 190) xB_168 dX11_goRun_189 rfl rfl ?_
          refine v_iload (n := 192) xB_168 dX11_goRun_190 rfl rfl ?_
          refine v_iload_n (n := 193) xB_168 dX11_goRun_192 rfl rfl ?_
          refine v_call_v (n := 196) xB_168 dX11_goRun_193 xO_168 iv_11_342 rfl (sh_81 _ _ _) rfl rfl rfl ?_
          refine c_putsOut (by omega) (by first | omega | (simp only [sA_same, sA_s, ud_s, Int.reduceEq, if_true, if_false, ite_true, ite_false, ↓reduceIte, and_true, true_and, eq_self, Int.add_zero, Int.reduceAdd]; omega)) (by first | omega | (simp only [sA_same, sA_s, ud_s, Int.reduceEq, if_true, if_false, ite_true, ite_false, ↓reduceIte, and_true, true_and, eq_self, Int.add_zero, Int.reduceAdd]; omega)) (by first | omega | (simp only [sA_same, sA_s, ud_s, Int.reduceEq, if_true, if_false, ite_true, ite_false, ↓reduceIte, and_true, true_and, eq_self, Int.add_zero, Int.reduceAdd]; omega)) (by first | omega | (simp only [sA_same, sA_s, ud_s, Int.reduceEq, if_true, if_false, ite_true, ite_false, ↓reduceIte, and_true, true_and, eq_self, Int.add_zero, Int.reduceAdd]; omega)) (by simp (disch := omega) only [sA_ne, sA_same]; assumption) (by simp (disch := omega) only [sA_ne, sA_same]; assumption) (by simp (disch := omega) only [sA_ne, sA_same]; assumption) (by simp (disch := omega) only [sA_ne, sA_same]; assumption) (fun sd2 dn2 od2 on2 hdn2 hsd2 hon2 hod2 hpk2 hpo2 => ?_)
          (try simp (disch := omega) only [sA_same, sA_ne, sA_sA, sA_sr, sB_s, ud_eq, ud_ne, ud_ud, ud_sr, uB_s, Int.add_zero, Int.reduceAdd])
          refine v_aload_n (n := 197) xB_168 dX11_goRun_196 rfl rfl ?_
          refine v_iload_n (n := 198) xB_168 dX11_goRun_197 rfl rfl ?_
          refine v_iload (n := 200) xB_168 dX11_goRun_198 rfl rfl ?_
          refine v_iload_n (n := 201) xB_168 dX11_goRun_200 rfl rfl ?_
          refine v_call_v (n := 204) xB_168 dX11_goRun_201 xO_168 iv_11_331 rfl (sh_81 _ _ _) rfl rfl rfl ?_
          refine c_goesOn (by omega) (by first | omega | (simp only [sA_same, sA_s, ud_s, Int.reduceEq, if_true, if_false, ite_true, ite_false, ↓reduceIte, and_true, true_and, eq_self, Int.add_zero, Int.reduceAdd]; omega)) (of_eq' (JR_fr (m := m) (by simp (disch := omega) only [sA_ne]) ⟨by simp (disch := omega) only [sA_ne], by simp (disch := omega) only [sA_ne], by simp (disch := omega) only [sA_ne], by simp (disch := omega) only [sA_ne], by simp (disch := omega) only [sA_ne]⟩ _ _) hJ) (by first | omega | (simp only [sA_same, sA_s, ud_s, Int.reduceEq, if_true, if_false, ite_true, ite_false, ↓reduceIte, and_true, true_and, eq_self, Int.add_zero, Int.reduceAdd]; omega)) (by first | omega | (simp only [sA_same, sA_s, ud_s, Int.reduceEq, if_true, if_false, ite_true, ite_false, ↓reduceIte, and_true, true_and, eq_self, Int.add_zero, Int.reduceAdd]; omega)) (fun f5 => ?_)
          (try simp (disch := omega) only [sA_same, sA_ne, sA_sA, sA_sr, sB_s, ud_eq, ud_ne, ud_ud, ud_sr, uB_s, Int.add_zero, Int.reduceAdd])
          refine v_istore5 (n := 206) xB_168 dX11_goRun_204 rfl rfl ?_
          refine v_goto (t := 33) xB_168 dX11_goRun_206 (by decide) rfl ?_
          have hd0 : dryF (m 82 t) (m 83 t) n = false := by unfold dryF; exact decide_eq_false (by omega)
          rw [hd0, if_neg (by decide)] at hpg1 hpr1
          simp (disch := omega) only [sA_same, sA_ne, sA_sA, sA_sr, sB_s, ud_eq, ud_ne, ud_ud, ud_sr, uB_s, Int.add_zero, Int.reduceAdd] at hpk2 hpo2
          first | rw [show decide ((1 : Int) = 1) = true from rfl] at hpk1 | rw [show decide ((0 : Int) = 1) = false from rfl] at hpk1
          simp (disch := omega) only [sA_same, sA_ne, sA_sA, sA_sr, sB_s, ud_eq, ud_ne, ud_ud, ud_sr, uB_s, Int.add_zero, Int.reduceAdd] at hpk1
          rw [← hpr1, ← Int.natCast_succ]
          have hs1 : spF (m 82 t) (m 83 t) CL n = false := by unfold spF; exact decide_eq_false (by omega)
          have hix : (if m 82 t = 4 then m 81 22 - 1 - (n : Int) else n) = top := by first | rw [if_pos hk, hs0] | rw [if_neg (by omega), hs0]
          refine ih (n + 1) _ _ _ _ _ _ _ _ _ _ _ (by omega) (hgo hs1) (by unfold qF; rw [hpg1]) ?_ ?_ hdn2 hsd2 hon2 hod2 ?_ ?_
          · first | (rw [if_pos hk]; omega) | (rw [if_neg (by omega)]; omega)
          · first | (rw [if_pos hk]; omega) | (rw [if_neg (by omega)]; omega)
          · intro s h1 h2
            rw [hpk2 s (by omega), hpk1, if_neg (by omega)]
            exact hl s (by omega) (by omega)
          · intro i hi
            rw [hpo2]
            by_cases hx : (i : Int) = n
            · have hi2 : i = n := by omega
              subst hi2
              rw [if_pos rfl, hpk1, if_pos rfl, hl _ (by omega) (by omega)]
              unfold oF
              rw [hd0, if_neg (by decide), ← hpg, hix]
              first | rw [show anyW CL 3 pg (m 82 t) (m 83 t) i = true from by assumption] | rw [show anyW CL 3 pg (m 82 t) (m 83 t) i = false from by assumption]
              rfl
            · rw [if_neg hx]
              exact ho i (by omega)
        · (try simp (disch := omega) only [sA_same, sA_ne, sA_sA, sA_sr, sB_s, ud_eq, ud_ne, ud_ud, ud_sr, uB_s, Int.add_zero, Int.reduceAdd] at g3)
          (try simp (disch := omega) only [sA_same, sA_ne, sA_sA, sA_sr, sB_s, ud_eq, ud_ne, ud_ud, ud_sr, uB_s, Int.add_zero, Int.reduceAdd])
          refine v_call_v (n := 186) xB_168 dX11_goRun_183 xO_168 iv_11_338 rfl (sh_81 _ _ _) rfl rfl rfl ?_
          refine c_prints (by omega) (by first | omega | (simp only [sA_same, sA_s, ud_s, Int.reduceEq, if_true, if_false, ite_true, ite_false, ↓reduceIte, and_true, true_and, eq_self, Int.add_zero, Int.reduceAdd]; omega)) (mnmo (by omega) (hr _).1) (by decide) (by first | omega | (simp only [sA_same, sA_s, ud_s, Int.reduceEq, if_true, if_false, ite_true, ite_false, ↓reduceIte, and_true, true_and, eq_self, Int.add_zero, Int.reduceAdd]; omega)) (by simp (disch := omega) only [sA_ne, sA_same]; assumption) (by simp (disch := omega) only [sA_ne, sA_same]; assumption) (fun sd1 dn1 hdn1 hsd1 hpk1 => ?_)
          (try simp (disch := omega) only [sA_same, sA_ne, sA_sA, sA_sr, sB_s, ud_eq, ud_ne, ud_ud, ud_sr, uB_s, Int.add_zero, Int.reduceAdd])
          refine v_iinc5 (n := 189) xB_168 dX11_goRun_186 rfl (by first | omega | (simp only [sA_same, sA_s, ud_s, Int.reduceEq, if_true, if_false, ite_true, ite_false, ↓reduceIte, and_true, true_and, eq_self, Int.add_zero, Int.reduceAdd]; omega)) rfl ?_
          refine v_aload_n (n := 190) xB_168 dX11_goRun_189 rfl rfl ?_
          refine v_iload (n := 192) xB_168 dX11_goRun_190 rfl rfl ?_
          refine v_iload_n (n := 193) xB_168 dX11_goRun_192 rfl rfl ?_
          refine v_call_v (n := 196) xB_168 dX11_goRun_193 xO_168 iv_11_342 rfl (sh_81 _ _ _) rfl rfl rfl ?_
          refine c_putsOut (by omega) (by first | omega | (simp only [sA_same, sA_s, ud_s, Int.reduceEq, if_true, if_false, ite_true, ite_false, ↓reduceIte, and_true, true_and, eq_self, Int.add_zero, Int.reduceAdd]; omega)) (by first | omega | (simp only [sA_same, sA_s, ud_s, Int.reduceEq, if_true, if_false, ite_true, ite_false, ↓reduceIte, and_true, true_and, eq_self, Int.add_zero, Int.reduceAdd]; omega)) (by first | omega | (simp only [sA_same, sA_s, ud_s, Int.reduceEq, if_true, if_false, ite_true, ite_false, ↓reduceIte, and_true, true_and, eq_self, Int.add_zero, Int.reduceAdd]; omega)) (by first | omega | (simp only [sA_same, sA_s, ud_s, Int.reduceEq, if_true, if_false, ite_true, ite_false, ↓reduceIte, and_true, true_and, eq_self, Int.add_zero, Int.reduceAdd]; omega)) (by simp (disch := omega) only [sA_ne, sA_same]; assumption) (by simp (disch := omega) only [sA_ne, sA_same]; assumption) (by simp (disch := omega) only [sA_ne, sA_same]; assumption) (by simp (disch := omega) only [sA_ne, sA_same]; assumption) (fun sd2 dn2 od2 on2 hdn2 hsd2 hon2 hod2 hpk2 hpo2 => ?_)
          (try simp (disch := omega) only [sA_same, sA_ne, sA_sA, sA_sr, sB_s, ud_eq, ud_ne, ud_ud, ud_sr, uB_s, Int.add_zero, Int.reduceAdd])
          refine v_aload_n (n := 197) xB_168 dX11_goRun_196 rfl rfl ?_
          refine v_iload_n (n := 198) xB_168 dX11_goRun_197 rfl rfl ?_
          refine v_iload (n := 200) xB_168 dX11_goRun_198 rfl rfl ?_
          refine v_iload_n (n := 201) xB_168 dX11_goRun_200 rfl rfl ?_
          refine v_call_v (n := 204) xB_168 dX11_goRun_201 xO_168 iv_11_331 rfl (sh_81 _ _ _) rfl rfl rfl ?_
          refine c_goesOn (by omega) (by first | omega | (simp only [sA_same, sA_s, ud_s, Int.reduceEq, if_true, if_false, ite_true, ite_false, ↓reduceIte, and_true, true_and, eq_self, Int.add_zero, Int.reduceAdd]; omega)) (of_eq' (JR_fr (m := m) (by simp (disch := omega) only [sA_ne]) ⟨by simp (disch := omega) only [sA_ne], by simp (disch := omega) only [sA_ne], by simp (disch := omega) only [sA_ne], by simp (disch := omega) only [sA_ne], by simp (disch := omega) only [sA_ne]⟩ _ _) hJ) (by first | omega | (simp only [sA_same, sA_s, ud_s, Int.reduceEq, if_true, if_false, ite_true, ite_false, ↓reduceIte, and_true, true_and, eq_self, Int.add_zero, Int.reduceAdd]; omega)) (by first | omega | (simp only [sA_same, sA_s, ud_s, Int.reduceEq, if_true, if_false, ite_true, ite_false, ↓reduceIte, and_true, true_and, eq_self, Int.add_zero, Int.reduceAdd]; omega)) (fun f5 => ?_)
          (try simp (disch := omega) only [sA_same, sA_ne, sA_sA, sA_sr, sB_s, ud_eq, ud_ne, ud_ud, ud_sr, uB_s, Int.add_zero, Int.reduceAdd])
          refine v_istore5 (n := 206) xB_168 dX11_goRun_204 rfl rfl ?_
          refine v_goto (t := 33) xB_168 dX11_goRun_206 (by decide) rfl ?_
          have hd0 : dryF (m 82 t) (m 83 t) n = false := by unfold dryF; exact decide_eq_false (by omega)
          rw [hd0, if_neg (by decide)] at hpg1 hpr1
          simp (disch := omega) only [sA_same, sA_ne, sA_sA, sA_sr, sB_s, ud_eq, ud_ne, ud_ud, ud_sr, uB_s, Int.add_zero, Int.reduceAdd] at hpk2 hpo2
          first | rw [show decide ((1 : Int) = 1) = true from rfl] at hpk1 | rw [show decide ((0 : Int) = 1) = false from rfl] at hpk1
          simp (disch := omega) only [sA_same, sA_ne, sA_sA, sA_sr, sB_s, ud_eq, ud_ne, ud_ud, ud_sr, uB_s, Int.add_zero, Int.reduceAdd] at hpk1
          rw [← hpr1, ← Int.natCast_succ]
          have hs1 : spF (m 82 t) (m 83 t) CL n = false := by unfold spF; exact decide_eq_false (by omega)
          have hix : (if m 82 t = 4 then m 81 22 - 1 - (n : Int) else n) = top := by first | rw [if_pos hk, hs0] | rw [if_neg (by omega), hs0]
          refine ih (n + 1) _ _ _ _ _ _ _ _ _ _ _ (by omega) (hgo hs1) (by unfold qF; rw [hpg1]) ?_ ?_ hdn2 hsd2 hon2 hod2 ?_ ?_
          · first | (rw [if_pos hk]; omega) | (rw [if_neg (by omega)]; omega)
          · first | (rw [if_pos hk]; omega) | (rw [if_neg (by omega)]; omega)
          · intro s h1 h2
            rw [hpk2 s (by omega), hpk1, if_neg (by omega)]
            exact hl s (by omega) (by omega)
          · intro i hi
            rw [hpo2]
            by_cases hx : (i : Int) = n
            · have hi2 : i = n := by omega
              subst hi2
              rw [if_pos rfl, hpk1, if_pos rfl, hl _ (by omega) (by omega)]
              unfold oF
              rw [hd0, if_neg (by decide), ← hpg, hix]
              first | rw [show anyW CL 3 pg (m 82 t) (m 83 t) i = true from by assumption] | rw [show anyW CL 3 pg (m 82 t) (m 83 t) i = false from by assumption]
              rfl
            · rw [if_neg hx]
              exact ho i (by omega)
