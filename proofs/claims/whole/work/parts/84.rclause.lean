/-! The reference reads clauses, a job. -/
theorem hd_tw {T : Int → Int} {n a l0 l1 l2 l3 : Int} (h : mw T n a (wst T n a) = mt4 T n a l0 l1 l2 l3) : (hdF T n a).1 = (twF T n a l0 l1 l2 l3).1 ∧ (hdF T n a).2.1 = (twF T n a l0 l1 l2 l3).2 := by
  have hw := wst_in T n a
  unfold hdF wdF twF
  rw [h]
  by_cases h4 : mt4 T n a l0 l1 l2 l3 = 4
  · rw [if_pos h4, if_pos h4, if_neg (by dsimp only; omega)]
    dsimp only
    by_cases h5 : nxt T n (a + 4) = 32
    · rw [if_pos h5, if_pos h5]; exact ⟨rfl, by dsimp only; omega⟩
    · rw [if_neg h5, if_neg h5]; exact ⟨rfl, rfl⟩
  · rw [if_neg h4, if_neg h4, if_pos (by dsimp only; omega)]; exact ⟨rfl, rfl⟩
set_option maxHeartbeats 1000000 in
theorem c_takesHead {d : Nat} {c : Int} {m : PM} {dy : List (Nat × Nat)} {L : Nat} {Q : Option PV → PS → Prop} (hd : 4 ≤ d) (hc : 0 ≤ c ∧ c < 60) (hL : ∀ i : Nat, i < 16 → m 94 i = ltr i) (hn : m 81 6 ≤ 100) (ha : 0 ≤ m 81 7 ∧ m 81 7 ≤ m 81 6) (o1 : ((hdF (m 86) (m 81 6) (m 81 7)).1 = true) → Q (some (.inl 1)) (setA (setA m 81 (ud (m 81) 7 (hdF (m 86) (m 81 6) (m 81 7)).2.1)) 88 (ud (m 88) c (wst (m 86) (m 81 6) (m 81 7))), (none, (dy, L)))) (o2 : ((hdF (m 86) (m 81 6) (m 81 7)).1 = false) → Q (some (.inl 0)) (setA (setA m 81 (ud (m 81) 7 (hdF (m 86) (m 81 6) (m 81 7)).2.1)) 88 (ud (m 88) c (wst (m 86) (m 81 6) (m 81 7))), (none, (dy, L)))) : C d 138 [.inr (.inr 81), .inl c] (m, (none, (dy, L))) Q := by
  refine C_go (k := 3) hd xL_138 (fun d hd => ?_)
  show V d 138 (0, ([some (.inr (.inr 81)), some (.inl c)], ([], (m, (none, (dy, L)))))) Q
  rcases (by omega : nxt (m 86) (m 81 6) (m 81 7) = 102 ∨ nxt (m 86) (m 81 6) (m 81 7) = 115 ∨ (¬ nxt (m 86) (m 81 6) (m 81 7) = 102 ∧ ¬ nxt (m 86) (m 81 6) (m 81 7) = 115 ∧ nxt (m 86) (m 81 6) (m 81 7 + 1) = 117) ∨ (¬ nxt (m 86) (m 81 6) (m 81 7) = 102 ∧ ¬ nxt (m 86) (m 81 6) (m 81 7) = 115 ∧ ¬ nxt (m 86) (m 81 6) (m 81 7 + 1) = 117)) with hx | hx | hx | hx
  · have hw : wst (m 86) (m 81 6) (m 81 7) = 0 := by unfold wst; rw [if_pos hx]
    have hm : mw (m 86) (m 81 6) (m 81 7) (wst (m 86) (m 81 6) (m 81 7)) = mt4 (m 86) (m 81 6) (m 81 7) 102 114 111 109 := by rw [hw]; unfold mw; rw [if_pos rfl]
    obtain ⟨z1, z2⟩ := hd_tw hm
    rw [z1, z2, hw] at o1 o2
    refine v_aload_n (n := 1) xB_138 dX11_takesHead_0 rfl rfl ?_
    refine v_call_v (n := 4) xB_138 dX11_takesHead_1 xO_138 iv_11_229 rfl (sh_81 _ _ _) rfl rfl rfl ?_
    refine c_next (by omega) (by first | omega | (simp only [sA_same, sA_s, ud_s, Int.reduceEq, if_true, if_false, ite_true, ite_false, ↓reduceIte, and_true, true_and, eq_self, Int.add_zero, Int.reduceAdd]; omega) | (simp (disch := omega) only [sA_same, sA_ne, ud_eq, ud_ne, Int.add_zero, Int.reduceAdd]; omega)) ?_
    refine v_lsw xB_138 dX11_takesHead_4 rfl ?_
    refine lsp_c (fun g1 => ?_) (fun g1 => ?_)
    · refine jm_go (t := 32) (by decide) rfl ?_
      refine v_aload_n (n := 33) xB_138 dX11_takesHead_32 rfl rfl ?_
      refine v_gf_s (n := 36) (kz := 11) xB_138 dX11_takesHead_33 xO_138 fl_11_44 fg_11_11 (sh_81 _ _ _) rfl st_81_11 rfl ?_
      refine v_iload_n (n := 37) xB_138 dX11_takesHead_36 rfl rfl ?_
      refine v_iconst (n := 38) xB_138 dX11_takesHead_37 ⟨by decide, by decide⟩ rfl ?_
      refine v_iastore (n := 39) (lz := 60) xB_138 dX11_takesHead_38 (sh_88 _ _ _) (by decide) rfl (by first | omega | (simp only [sA_same, sA_s, ud_s, Int.reduceEq, if_true, if_false, ite_true, ite_false, ↓reduceIte, and_true, true_and, eq_self, Int.add_zero, Int.reduceAdd]; omega) | (simp (disch := omega) only [sA_same, sA_ne, ud_eq, ud_ne, Int.add_zero, Int.reduceAdd]; omega)) rfl ?_
      (try simp (disch := omega) only [sA_same, sA_ne, sA_sA, sA_sr, sB_s, ud_eq, ud_ne, ud_ud, ud_sr, uB_s, Int.add_zero, Int.reduceAdd])
      refine v_aload_n (n := 40) xB_138 dX11_takesHead_39 rfl rfl ?_
      refine v_iconst (n := 41) xB_138 dX11_takesHead_40 ⟨by decide, by decide⟩ rfl ?_
      refine v_iconst (n := 42) xB_138 dX11_takesHead_41 ⟨by decide, by decide⟩ rfl ?_
      refine v_call_v (n := 45) xB_138 dX11_takesHead_42 xO_138 iv_11_260 rfl (sh_81 _ _ _) rfl rfl rfl ?_
      refine c_tw0 (by omega) (by intro i hi; simp (disch := omega) only [sA_ne]; exact hL i hi) (by first | omega | (simp only [sA_same, sA_s, ud_s, Int.reduceEq, if_true, if_false, ite_true, ite_false, ↓reduceIte, and_true, true_and, eq_self, Int.add_zero, Int.reduceAdd]; omega) | (simp (disch := omega) only [sA_same, sA_ne, ud_eq, ud_ne, Int.add_zero, Int.reduceAdd]; omega)) (by first | omega | (simp only [sA_same, sA_s, ud_s, Int.reduceEq, if_true, if_false, ite_true, ite_false, ↓reduceIte, and_true, true_and, eq_self, Int.add_zero, Int.reduceAdd]; omega) | (simp (disch := omega) only [sA_same, sA_ne, ud_eq, ud_ne, Int.add_zero, Int.reduceAdd]; omega)) (fun g2 => ?_) (fun g3 => ?_)
      · (try simp (disch := omega) only [sA_same, sA_ne, sA_sA, sA_sr, sB_s, ud_eq, ud_ne, ud_ud, ud_sr, uB_s, Int.add_zero, Int.reduceAdd] at g2)
        (try simp (disch := omega) only [sA_same, sA_ne, sA_sA, sA_sr, sB_s, ud_eq, ud_ne, ud_ud, ud_sr, uB_s, Int.add_zero, Int.reduceAdd])
        refine v_ireturn1 xB_138 dX11_takesHead_45 xK_138 (by decide) ?_
        (try simp (disch := omega) only [sA_same, sA_ne, sA_sA, sA_sr, sB_s, ud_eq, ud_ne, ud_ud, ud_sr, uB_s, Int.add_zero, Int.reduceAdd])
        first | exact o1 (by assumption) | exact o2 (by assumption)
      · (try simp (disch := omega) only [sA_same, sA_ne, sA_sA, sA_sr, sB_s, ud_eq, ud_ne, ud_ud, ud_sr, uB_s, Int.add_zero, Int.reduceAdd] at g3)
        (try simp (disch := omega) only [sA_same, sA_ne, sA_sA, sA_sr, sB_s, ud_eq, ud_ne, ud_ud, ud_sr, uB_s, Int.add_zero, Int.reduceAdd])
        refine v_ireturn1 xB_138 dX11_takesHead_45 xK_138 (by decide) ?_
        (try simp (disch := omega) only [sA_same, sA_ne, sA_sA, sA_sr, sB_s, ud_eq, ud_ne, ud_ud, ud_sr, uB_s, Int.add_zero, Int.reduceAdd])
        first | exact o1 (by assumption) | exact o2 (by assumption)
    refine lsp_c (fun g4 => ?_) (fun g4 => ?_)
    · refine jm_go (t := 46) (by decide) rfl ?_
      exfalso; omega
    refine lsp_n ?_
    refine jm_go (t := 61) (by decide) rfl ?_
    exfalso; omega
  · have hw : wst (m 86) (m 81 6) (m 81 7) = 2 := by unfold wst; rw [if_neg (by omega), if_pos hx]
    have hm : mw (m 86) (m 81 6) (m 81 7) (wst (m 86) (m 81 6) (m 81 7)) = mt4 (m 86) (m 81 6) (m 81 7) 115 107 105 112 := by rw [hw]; unfold mw; rw [if_neg (by omega), if_neg (by omega), if_pos rfl]
    obtain ⟨z1, z2⟩ := hd_tw hm
    rw [z1, z2, hw] at o1 o2
    refine v_aload_n (n := 1) xB_138 dX11_takesHead_0 rfl rfl ?_
    refine v_call_v (n := 4) xB_138 dX11_takesHead_1 xO_138 iv_11_229 rfl (sh_81 _ _ _) rfl rfl rfl ?_
    refine c_next (by omega) (by first | omega | (simp only [sA_same, sA_s, ud_s, Int.reduceEq, if_true, if_false, ite_true, ite_false, ↓reduceIte, and_true, true_and, eq_self, Int.add_zero, Int.reduceAdd]; omega) | (simp (disch := omega) only [sA_same, sA_ne, ud_eq, ud_ne, Int.add_zero, Int.reduceAdd]; omega)) ?_
    refine v_lsw xB_138 dX11_takesHead_4 rfl ?_
    refine lsp_c (fun g1 => ?_) (fun g1 => ?_)
    · refine jm_go (t := 32) (by decide) rfl ?_
      exfalso; omega
    refine lsp_c (fun g2 => ?_) (fun g2 => ?_)
    · refine jm_go (t := 46) (by decide) rfl ?_
      refine v_aload_n (n := 47) xB_138 dX11_takesHead_46 rfl rfl ?_
      refine v_gf_s (n := 50) (kz := 11) xB_138 dX11_takesHead_47 xO_138 fl_11_44 fg_11_11 (sh_81 _ _ _) rfl st_81_11 rfl ?_
      refine v_iload_n (n := 51) xB_138 dX11_takesHead_50 rfl rfl ?_
      refine v_iconst (n := 52) xB_138 dX11_takesHead_51 ⟨by decide, by decide⟩ rfl ?_
      refine v_iastore (n := 53) (lz := 60) xB_138 dX11_takesHead_52 (sh_88 _ _ _) (by decide) rfl (by first | omega | (simp only [sA_same, sA_s, ud_s, Int.reduceEq, if_true, if_false, ite_true, ite_false, ↓reduceIte, and_true, true_and, eq_self, Int.add_zero, Int.reduceAdd]; omega) | (simp (disch := omega) only [sA_same, sA_ne, ud_eq, ud_ne, Int.add_zero, Int.reduceAdd]; omega)) rfl ?_
      (try simp (disch := omega) only [sA_same, sA_ne, sA_sA, sA_sr, sB_s, ud_eq, ud_ne, ud_ud, ud_sr, uB_s, Int.add_zero, Int.reduceAdd])
      refine v_aload_n (n := 54) xB_138 dX11_takesHead_53 rfl rfl ?_
      refine v_bipush (n := 56) xB_138 dX11_takesHead_54 ⟨by decide, by decide⟩ rfl ?_
      refine v_iconst (n := 57) xB_138 dX11_takesHead_56 ⟨by decide, by decide⟩ rfl ?_
      refine v_call_v (n := 60) xB_138 dX11_takesHead_57 xO_138 iv_11_260 rfl (sh_81 _ _ _) rfl rfl rfl ?_
      refine c_tw2 (by omega) (by intro i hi; simp (disch := omega) only [sA_ne]; exact hL i hi) (by first | omega | (simp only [sA_same, sA_s, ud_s, Int.reduceEq, if_true, if_false, ite_true, ite_false, ↓reduceIte, and_true, true_and, eq_self, Int.add_zero, Int.reduceAdd]; omega) | (simp (disch := omega) only [sA_same, sA_ne, ud_eq, ud_ne, Int.add_zero, Int.reduceAdd]; omega)) (by first | omega | (simp only [sA_same, sA_s, ud_s, Int.reduceEq, if_true, if_false, ite_true, ite_false, ↓reduceIte, and_true, true_and, eq_self, Int.add_zero, Int.reduceAdd]; omega) | (simp (disch := omega) only [sA_same, sA_ne, ud_eq, ud_ne, Int.add_zero, Int.reduceAdd]; omega)) (fun g3 => ?_) (fun g4 => ?_)
      · (try simp (disch := omega) only [sA_same, sA_ne, sA_sA, sA_sr, sB_s, ud_eq, ud_ne, ud_ud, ud_sr, uB_s, Int.add_zero, Int.reduceAdd] at g3)
        (try simp (disch := omega) only [sA_same, sA_ne, sA_sA, sA_sr, sB_s, ud_eq, ud_ne, ud_ud, ud_sr, uB_s, Int.add_zero, Int.reduceAdd])
        refine v_ireturn1 xB_138 dX11_takesHead_60 xK_138 (by decide) ?_
        (try simp (disch := omega) only [sA_same, sA_ne, sA_sA, sA_sr, sB_s, ud_eq, ud_ne, ud_ud, ud_sr, uB_s, Int.add_zero, Int.reduceAdd])
        first | exact o1 (by assumption) | exact o2 (by assumption)
      · (try simp (disch := omega) only [sA_same, sA_ne, sA_sA, sA_sr, sB_s, ud_eq, ud_ne, ud_ud, ud_sr, uB_s, Int.add_zero, Int.reduceAdd] at g4)
        (try simp (disch := omega) only [sA_same, sA_ne, sA_sA, sA_sr, sB_s, ud_eq, ud_ne, ud_ud, ud_sr, uB_s, Int.add_zero, Int.reduceAdd])
        refine v_ireturn1 xB_138 dX11_takesHead_60 xK_138 (by decide) ?_
        (try simp (disch := omega) only [sA_same, sA_ne, sA_sA, sA_sr, sB_s, ud_eq, ud_ne, ud_ud, ud_sr, uB_s, Int.add_zero, Int.reduceAdd])
        first | exact o1 (by assumption) | exact o2 (by assumption)
    refine lsp_n ?_
    refine jm_go (t := 61) (by decide) rfl ?_
    exfalso; omega
  · have hw : wst (m 86) (m 81 6) (m 81 7) = 3 := by unfold wst; rw [if_neg (by omega), if_neg (by omega), if_pos hx.2.2]
    have hm : mw (m 86) (m 81 6) (m 81 7) (wst (m 86) (m 81 6) (m 81 7)) = mt4 (m 86) (m 81 6) (m 81 7) 116 117 114 110 := by rw [hw]; unfold mw; rw [if_neg (by omega), if_neg (by omega), if_neg (by omega)]
    obtain ⟨z1, z2⟩ := hd_tw hm
    rw [z1, z2, hw] at o1 o2
    refine v_aload_n (n := 1) xB_138 dX11_takesHead_0 rfl rfl ?_
    refine v_call_v (n := 4) xB_138 dX11_takesHead_1 xO_138 iv_11_229 rfl (sh_81 _ _ _) rfl rfl rfl ?_
    refine c_next (by omega) (by first | omega | (simp only [sA_same, sA_s, ud_s, Int.reduceEq, if_true, if_false, ite_true, ite_false, ↓reduceIte, and_true, true_and, eq_self, Int.add_zero, Int.reduceAdd]; omega) | (simp (disch := omega) only [sA_same, sA_ne, ud_eq, ud_ne, Int.add_zero, Int.reduceAdd]; omega)) ?_
    refine v_lsw xB_138 dX11_takesHead_4 rfl ?_
    refine lsp_c (fun g1 => ?_) (fun g1 => ?_)
    · refine jm_go (t := 32) (by decide) rfl ?_
      exfalso; omega
    refine lsp_c (fun g2 => ?_) (fun g2 => ?_)
    · refine jm_go (t := 46) (by decide) rfl ?_
      exfalso; omega
    refine lsp_n ?_
    refine jm_go (t := 61) (by decide) rfl ?_
    refine v_aload_n (n := 62) xB_138 dX11_takesHead_61 rfl rfl ?_
    refine v_gf_s (n := 65) (kz := 11) xB_138 dX11_takesHead_62 xO_138 fl_11_44 fg_11_11 (sh_81 _ _ _) rfl st_81_11 rfl ?_
    refine v_iload_n (n := 66) xB_138 dX11_takesHead_65 rfl rfl ?_
    refine v_aload_n (n := 67) xB_138 dX11_takesHead_66 rfl rfl ?_
    refine v_call_v (n := 70) xB_138 dX11_takesHead_67 xO_138 iv_11_264 rfl (sh_81 _ _ _) rfl rfl rfl ?_
    refine c_second (by omega) (by first | omega | (simp only [sA_same, sA_s, ud_s, Int.reduceEq, if_true, if_false, ite_true, ite_false, ↓reduceIte, and_true, true_and, eq_self, Int.add_zero, Int.reduceAdd]; omega) | (simp (disch := omega) only [sA_same, sA_ne, ud_eq, ud_ne, Int.add_zero, Int.reduceAdd]; omega)) ?_
    refine v_bipush (n := 72) xB_138 dX11_takesHead_70 ⟨by decide, by decide⟩ rfl ?_
    refine v_ic_ne_n (n := 75) xB_138 dX11_takesHead_72 (by decide) rfl (by first | omega | (simp only [sA_same, sA_s, ud_s, Int.reduceEq, if_true, if_false, ite_true, ite_false, ↓reduceIte, and_true, true_and, eq_self, Int.add_zero, Int.reduceAdd]; omega) | (simp (disch := omega) only [sA_same, sA_ne, ud_eq, ud_ne, Int.add_zero, Int.reduceAdd]; omega)) ?_
    refine v_iconst (n := 76) xB_138 dX11_takesHead_75 ⟨by decide, by decide⟩ rfl ?_
    refine v_goto (t := 80) xB_138 dX11_takesHead_76 (by decide) rfl ?_
    refine v_iastore (n := 81) (lz := 60) xB_138 dX11_takesHead_80 (sh_88 _ _ _) (by decide) rfl (by first | omega | (simp only [sA_same, sA_s, ud_s, Int.reduceEq, if_true, if_false, ite_true, ite_false, ↓reduceIte, and_true, true_and, eq_self, Int.add_zero, Int.reduceAdd]; omega) | (simp (disch := omega) only [sA_same, sA_ne, ud_eq, ud_ne, Int.add_zero, Int.reduceAdd]; omega)) rfl ?_
    (try simp (disch := omega) only [sA_same, sA_ne, sA_sA, sA_sr, sB_s, ud_eq, ud_ne, ud_ud, ud_sr, uB_s, Int.add_zero, Int.reduceAdd])
    refine v_aload_n (n := 82) xB_138 dX11_takesHead_81 rfl rfl ?_
    refine v_gf_s (n := 85) (kz := 11) xB_138 dX11_takesHead_82 xO_138 fl_11_44 fg_11_11 (sh_81 _ _ _) rfl st_81_11 rfl ?_
    refine v_iload_n (n := 86) xB_138 dX11_takesHead_85 rfl rfl ?_
    refine v_iaload (n := 87) (lz := 60) xB_138 dX11_takesHead_86 (sh_88 _ _ _) rfl (by first | omega | (simp only [sA_same, sA_s, ud_s, Int.reduceEq, if_true, if_false, ite_true, ite_false, ↓reduceIte, and_true, true_and, eq_self, Int.add_zero, Int.reduceAdd]; omega) | (simp (disch := omega) only [sA_same, sA_ne, ud_eq, ud_ne, Int.add_zero, Int.reduceAdd]; omega)) rfl ?_
    (try simp (disch := omega) only [sA_same, sA_ne, sA_sA, sA_sr, sB_s, ud_eq, ud_ne, ud_ud, ud_sr, uB_s, Int.add_zero, Int.reduceAdd])
    refine v_iconst (n := 88) xB_138 dX11_takesHead_87 ⟨by decide, by decide⟩ rfl ?_
    (try simp (disch := omega) only [sA_same, sA_ne, sA_sA, sA_sr, sB_s, ud_eq, ud_ne, ud_ud, ud_sr, uB_s, Int.add_zero, Int.reduceAdd])
    refine v_ic_ne_n (n := 91) xB_138 dX11_takesHead_88 (by decide) rfl (by first | omega | (simp only [sA_same, sA_s, ud_s, Int.reduceEq, if_true, if_false, ite_true, ite_false, ↓reduceIte, and_true, true_and, eq_self, Int.add_zero, Int.reduceAdd]; omega) | (simp (disch := omega) only [sA_same, sA_ne, ud_eq, ud_ne, Int.add_zero, Int.reduceAdd]; omega)) ?_
    refine v_aload_n (n := 92) xB_138 dX11_takesHead_91 rfl rfl ?_
    refine v_bipush (n := 94) xB_138 dX11_takesHead_92 ⟨by decide, by decide⟩ rfl ?_
    refine v_iconst (n := 95) xB_138 dX11_takesHead_94 ⟨by decide, by decide⟩ rfl ?_
    refine v_call_v (n := 98) xB_138 dX11_takesHead_95 xO_138 iv_11_260 rfl (sh_81 _ _ _) rfl rfl rfl ?_
    refine c_tw3 (by omega) (by intro i hi; simp (disch := omega) only [sA_ne]; exact hL i hi) (by first | omega | (simp only [sA_same, sA_s, ud_s, Int.reduceEq, if_true, if_false, ite_true, ite_false, ↓reduceIte, and_true, true_and, eq_self, Int.add_zero, Int.reduceAdd]; omega) | (simp (disch := omega) only [sA_same, sA_ne, ud_eq, ud_ne, Int.add_zero, Int.reduceAdd]; omega)) (by first | omega | (simp only [sA_same, sA_s, ud_s, Int.reduceEq, if_true, if_false, ite_true, ite_false, ↓reduceIte, and_true, true_and, eq_self, Int.add_zero, Int.reduceAdd]; omega) | (simp (disch := omega) only [sA_same, sA_ne, ud_eq, ud_ne, Int.add_zero, Int.reduceAdd]; omega)) (fun g3 => ?_) (fun g4 => ?_)
    · (try simp (disch := omega) only [sA_same, sA_ne, sA_sA, sA_sr, sB_s, ud_eq, ud_ne, ud_ud, ud_sr, uB_s, Int.add_zero, Int.reduceAdd] at g3)
      (try simp (disch := omega) only [sA_same, sA_ne, sA_sA, sA_sr, sB_s, ud_eq, ud_ne, ud_ud, ud_sr, uB_s, Int.add_zero, Int.reduceAdd])
      refine v_goto (t := 107) xB_138 dX11_takesHead_98 (by decide) rfl ?_
      refine v_ireturn1 xB_138 dX11_takesHead_107 xK_138 (by decide) ?_
      (try simp (disch := omega) only [sA_same, sA_ne, sA_sA, sA_sr, sB_s, ud_eq, ud_ne, ud_ud, ud_sr, uB_s, Int.add_zero, Int.reduceAdd])
      first | exact o1 (by assumption) | exact o2 (by assumption)
    · (try simp (disch := omega) only [sA_same, sA_ne, sA_sA, sA_sr, sB_s, ud_eq, ud_ne, ud_ud, ud_sr, uB_s, Int.add_zero, Int.reduceAdd] at g4)
      (try simp (disch := omega) only [sA_same, sA_ne, sA_sA, sA_sr, sB_s, ud_eq, ud_ne, ud_ud, ud_sr, uB_s, Int.add_zero, Int.reduceAdd])
      refine v_goto (t := 107) xB_138 dX11_takesHead_98 (by decide) rfl ?_
      refine v_ireturn1 xB_138 dX11_takesHead_107 xK_138 (by decide) ?_
      (try simp (disch := omega) only [sA_same, sA_ne, sA_sA, sA_sr, sB_s, ud_eq, ud_ne, ud_ud, ud_sr, uB_s, Int.add_zero, Int.reduceAdd])
      first | exact o1 (by assumption) | exact o2 (by assumption)
  · have hw : wst (m 86) (m 81 6) (m 81 7) = 1 := by unfold wst; rw [if_neg (by omega), if_neg (by omega), if_neg (by omega)]
    have hm : mw (m 86) (m 81 6) (m 81 7) (wst (m 86) (m 81 6) (m 81 7)) = mt4 (m 86) (m 81 6) (m 81 7) 116 105 108 108 := by rw [hw]; unfold mw; rw [if_neg (by omega), if_pos rfl]
    obtain ⟨z1, z2⟩ := hd_tw hm
    rw [z1, z2, hw] at o1 o2
    refine v_aload_n (n := 1) xB_138 dX11_takesHead_0 rfl rfl ?_
    refine v_call_v (n := 4) xB_138 dX11_takesHead_1 xO_138 iv_11_229 rfl (sh_81 _ _ _) rfl rfl rfl ?_
    refine c_next (by omega) (by first | omega | (simp only [sA_same, sA_s, ud_s, Int.reduceEq, if_true, if_false, ite_true, ite_false, ↓reduceIte, and_true, true_and, eq_self, Int.add_zero, Int.reduceAdd]; omega) | (simp (disch := omega) only [sA_same, sA_ne, ud_eq, ud_ne, Int.add_zero, Int.reduceAdd]; omega)) ?_
    refine v_lsw xB_138 dX11_takesHead_4 rfl ?_
    refine lsp_c (fun g1 => ?_) (fun g1 => ?_)
    · refine jm_go (t := 32) (by decide) rfl ?_
      exfalso; omega
    refine lsp_c (fun g2 => ?_) (fun g2 => ?_)
    · refine jm_go (t := 46) (by decide) rfl ?_
      exfalso; omega
    refine lsp_n ?_
    refine jm_go (t := 61) (by decide) rfl ?_
    refine v_aload_n (n := 62) xB_138 dX11_takesHead_61 rfl rfl ?_
    refine v_gf_s (n := 65) (kz := 11) xB_138 dX11_takesHead_62 xO_138 fl_11_44 fg_11_11 (sh_81 _ _ _) rfl st_81_11 rfl ?_
    refine v_iload_n (n := 66) xB_138 dX11_takesHead_65 rfl rfl ?_
    refine v_aload_n (n := 67) xB_138 dX11_takesHead_66 rfl rfl ?_
    refine v_call_v (n := 70) xB_138 dX11_takesHead_67 xO_138 iv_11_264 rfl (sh_81 _ _ _) rfl rfl rfl ?_
    refine c_second (by omega) (by first | omega | (simp only [sA_same, sA_s, ud_s, Int.reduceEq, if_true, if_false, ite_true, ite_false, ↓reduceIte, and_true, true_and, eq_self, Int.add_zero, Int.reduceAdd]; omega) | (simp (disch := omega) only [sA_same, sA_ne, ud_eq, ud_ne, Int.add_zero, Int.reduceAdd]; omega)) ?_
    refine v_bipush (n := 72) xB_138 dX11_takesHead_70 ⟨by decide, by decide⟩ rfl ?_
    refine v_ic_ne_y (t := 79) xB_138 dX11_takesHead_72 (by decide) rfl (by first | omega | (simp only [sA_same, sA_s, ud_s, Int.reduceEq, if_true, if_false, ite_true, ite_false, ↓reduceIte, and_true, true_and, eq_self, Int.add_zero, Int.reduceAdd]; omega) | (simp (disch := omega) only [sA_same, sA_ne, ud_eq, ud_ne, Int.add_zero, Int.reduceAdd]; omega)) ?_
    refine v_iconst (n := 80) xB_138 dX11_takesHead_79 ⟨by decide, by decide⟩ rfl ?_
    refine v_iastore (n := 81) (lz := 60) xB_138 dX11_takesHead_80 (sh_88 _ _ _) (by decide) rfl (by first | omega | (simp only [sA_same, sA_s, ud_s, Int.reduceEq, if_true, if_false, ite_true, ite_false, ↓reduceIte, and_true, true_and, eq_self, Int.add_zero, Int.reduceAdd]; omega) | (simp (disch := omega) only [sA_same, sA_ne, ud_eq, ud_ne, Int.add_zero, Int.reduceAdd]; omega)) rfl ?_
    (try simp (disch := omega) only [sA_same, sA_ne, sA_sA, sA_sr, sB_s, ud_eq, ud_ne, ud_ud, ud_sr, uB_s, Int.add_zero, Int.reduceAdd])
    refine v_aload_n (n := 82) xB_138 dX11_takesHead_81 rfl rfl ?_
    refine v_gf_s (n := 85) (kz := 11) xB_138 dX11_takesHead_82 xO_138 fl_11_44 fg_11_11 (sh_81 _ _ _) rfl st_81_11 rfl ?_
    refine v_iload_n (n := 86) xB_138 dX11_takesHead_85 rfl rfl ?_
    refine v_iaload (n := 87) (lz := 60) xB_138 dX11_takesHead_86 (sh_88 _ _ _) rfl (by first | omega | (simp only [sA_same, sA_s, ud_s, Int.reduceEq, if_true, if_false, ite_true, ite_false, ↓reduceIte, and_true, true_and, eq_self, Int.add_zero, Int.reduceAdd]; omega) | (simp (disch := omega) only [sA_same, sA_ne, ud_eq, ud_ne, Int.add_zero, Int.reduceAdd]; omega)) rfl ?_
    (try simp (disch := omega) only [sA_same, sA_ne, sA_sA, sA_sr, sB_s, ud_eq, ud_ne, ud_ud, ud_sr, uB_s, Int.add_zero, Int.reduceAdd])
    refine v_iconst (n := 88) xB_138 dX11_takesHead_87 ⟨by decide, by decide⟩ rfl ?_
    (try simp (disch := omega) only [sA_same, sA_ne, sA_sA, sA_sr, sB_s, ud_eq, ud_ne, ud_ud, ud_sr, uB_s, Int.add_zero, Int.reduceAdd])
    refine v_ic_ne_y (t := 101) xB_138 dX11_takesHead_88 (by decide) rfl (by first | omega | (simp only [sA_same, sA_s, ud_s, Int.reduceEq, if_true, if_false, ite_true, ite_false, ↓reduceIte, and_true, true_and, eq_self, Int.add_zero, Int.reduceAdd]; omega) | (simp (disch := omega) only [sA_same, sA_ne, ud_eq, ud_ne, Int.add_zero, Int.reduceAdd]; omega)) ?_
    refine v_aload_n (n := 102) xB_138 dX11_takesHead_101 rfl rfl ?_
    refine v_iconst (n := 103) xB_138 dX11_takesHead_102 ⟨by decide, by decide⟩ rfl ?_
    refine v_iconst (n := 104) xB_138 dX11_takesHead_103 ⟨by decide, by decide⟩ rfl ?_
    refine v_call_v (n := 107) xB_138 dX11_takesHead_104 xO_138 iv_11_260 rfl (sh_81 _ _ _) rfl rfl rfl ?_
    refine c_tw1 (by omega) (by intro i hi; simp (disch := omega) only [sA_ne]; exact hL i hi) (by first | omega | (simp only [sA_same, sA_s, ud_s, Int.reduceEq, if_true, if_false, ite_true, ite_false, ↓reduceIte, and_true, true_and, eq_self, Int.add_zero, Int.reduceAdd]; omega) | (simp (disch := omega) only [sA_same, sA_ne, ud_eq, ud_ne, Int.add_zero, Int.reduceAdd]; omega)) (by first | omega | (simp only [sA_same, sA_s, ud_s, Int.reduceEq, if_true, if_false, ite_true, ite_false, ↓reduceIte, and_true, true_and, eq_self, Int.add_zero, Int.reduceAdd]; omega) | (simp (disch := omega) only [sA_same, sA_ne, ud_eq, ud_ne, Int.add_zero, Int.reduceAdd]; omega)) (fun g3 => ?_) (fun g4 => ?_)
    · (try simp (disch := omega) only [sA_same, sA_ne, sA_sA, sA_sr, sB_s, ud_eq, ud_ne, ud_ud, ud_sr, uB_s, Int.add_zero, Int.reduceAdd] at g3)
      (try simp (disch := omega) only [sA_same, sA_ne, sA_sA, sA_sr, sB_s, ud_eq, ud_ne, ud_ud, ud_sr, uB_s, Int.add_zero, Int.reduceAdd])
      refine v_ireturn1 xB_138 dX11_takesHead_107 xK_138 (by decide) ?_
      (try simp (disch := omega) only [sA_same, sA_ne, sA_sA, sA_sr, sB_s, ud_eq, ud_ne, ud_ud, ud_sr, uB_s, Int.add_zero, Int.reduceAdd])
      first | exact o1 (by assumption) | exact o2 (by assumption)
    · (try simp (disch := omega) only [sA_same, sA_ne, sA_sA, sA_sr, sB_s, ud_eq, ud_ne, ud_ud, ud_sr, uB_s, Int.add_zero, Int.reduceAdd] at g4)
      (try simp (disch := omega) only [sA_same, sA_ne, sA_sA, sA_sr, sB_s, ud_eq, ud_ne, ud_ud, ud_sr, uB_s, Int.add_zero, Int.reduceAdd])
      refine v_ireturn1 xB_138 dX11_takesHead_107 xK_138 (by decide) ?_
      (try simp (disch := omega) only [sA_same, sA_ne, sA_sA, sA_sr, sB_s, ud_eq, ud_ne, ud_ud, ud_sr, uB_s, Int.add_zero, Int.reduceAdd])
      first | exact o1 (by assumption) | exact o2 (by assumption)
def Fc (m m' : PM) (c a : Int) : Prop := (∀ x : Int, x ≠ 81 → x < 88 ∨ 93 < x → m' x = m x) ∧ (∀ k : Int, k ≠ 7 → k ≠ 8 → k ≠ 17 → k ≠ 18 → k ≠ 19 → m' 81 k = m 81 k) ∧ (∀ i : Int, i ≠ c → m' 88 i = m 88 i ∧ m' 89 i = m 89 i ∧ m' 90 i = m 90 i ∧ m' 91 i = m 91 i) ∧ (∀ i : Int, i < m 81 17 → m' 92 i = m 92 i) ∧ m' 81 7 = a
def Fs (m m' : PM) (c : Int) (x : Int × (Int × List Int)) : Prop := m' 81 17 = m 81 17 + x.2.2.length ∧ m' 88 c = x.1 ∧ (x.1 < 2 → m' 89 c = x.2.1) ∧ (2 ≤ x.1 → m' 90 c = m 81 17 ∧ m' 91 c = m' 81 17 ∧ LA (m' 92) (m 81 17) (x.2.2.map trS))
theorem Fc_E {m M2 m' : PM} {c a : Int} {W E : List Int} (hS : St M2 m' c a W E) (h1 : ∀ x : Int, x ≠ 81 → x < 88 ∨ 93 < x → M2 x = m x) (h2 : ∀ k : Int, k ≠ 7 → k ≠ 8 → k ≠ 17 → k ≠ 18 → k ≠ 19 → M2 81 k = m 81 k) (h3 : ∀ i : Int, i ≠ c → M2 88 i = m 88 i ∧ M2 89 i = m 89 i ∧ M2 90 i = m 90 i ∧ M2 91 i = m 91 i) (h4 : M2 92 = m 92) (h5 : M2 81 17 = m 81 17) : Fc m m' c a := by
  obtain ⟨q1, q2, q3, q4, q5, q6, q7, q8, -⟩ := hS
  refine ⟨fun x p q => (q1 x p (by omega) (by omega) (by omega)).trans (h1 x p q), fun k a b c d e => (q2 k a b c d e).trans (h2 k a b c d e), fun i hi => ?_, fun i hi => ?_, q4⟩
  · obtain ⟨z1, z2, z3, z4⟩ := h3 i hi
    exact ⟨by rw [q1 88 (by omega) (by omega) (by omega) (by omega)]; exact z1, by rw [q1 89 (by omega) (by omega) (by omega) (by omega)]; exact z2, by rw [q1 90 (by omega) (by omega) (by omega) (by omega)]; exact z3, (q3 i hi).trans z4⟩
  · rw [← h5] at hi
    rw [q8 i hi, h4]
set_option maxHeartbeats 1000000 in
theorem c_takesClause {d : Nat} {c B : Int} {m : PM} {dy : List (Nat × Nat)} {L : Nat} {Q : Option PV → PS → Prop} (hd : 7 ≤ d) (hc : 0 ≤ c ∧ c < 60) (hL : ∀ i : Nat, i < 16 → m 94 i = ltr i) (hn : m 81 6 ≤ 100) (ha : 0 ≤ m 81 7 ∧ m 81 7 ≤ m 81 6) (hB : 0 ≤ B ∧ B ≤ 500) (hs : 0 ≤ m 81 17 ∧ m 81 17 ≤ B + m 81 7) (o1 : (clF (m 86) (m 81 6) (m 81 7)).1 = true → ∀ m' : PM, Fc m m' c (clF (m 86) (m 81 6) (m 81 7)).2.1 → Fs m m' c (clF (m 86) (m 81 6) (m 81 7)).2.2 → Q (some (.inl 1)) (m', (none, (dy, L)))) (o2 : (clF (m 86) (m 81 6) (m 81 7)).1 = false → ∀ m' : PM, Fc m m' c (clF (m 86) (m 81 6) (m 81 7)).2.1 → Q (some (.inl 0)) (m', (none, (dy, L)))) : C d 139 [.inr (.inr 81), .inl c] (m, (none, (dy, L))) Q := by
  refine C_go (k := 6) hd xL_139 (fun d hd => ?_)
  show V d 139 (0, ([some (.inr (.inr 81)), some (.inl c)], ([], (m, (none, (dy, L)))))) Q
  obtain ⟨i1, i2, i3⟩ := hdF_in (m 86) (n := m 81 6) (a := m 81 7) ha.2
  have wi := wst_in (m 86) (m 81 6) (m 81 7)
  refine v_aload_n (n := 1) xB_139 dX11_takesClause_0 rfl rfl ?_
  refine v_iload_n (n := 2) xB_139 dX11_takesClause_1 rfl rfl ?_
  refine v_call_v (n := 5) xB_139 dX11_takesClause_2 xO_139 iv_11_267 rfl (sh_81 _ _ _) rfl rfl rfl ?_
  refine c_takesHead (by omega) hc hL (by first | omega | (simp only [sA_same, sA_s, ud_s, Int.reduceEq, if_true, if_false, ite_true, ite_false, ↓reduceIte, and_true, true_and, eq_self, Int.add_zero, Int.reduceAdd]; omega) | (simp (disch := omega) only [sA_same, sA_ne, ud_eq, ud_ne, Int.add_zero, Int.reduceAdd]; omega)) (by first | omega | (simp only [sA_same, sA_s, ud_s, Int.reduceEq, if_true, if_false, ite_true, ite_false, ↓reduceIte, and_true, true_and, eq_self, Int.add_zero, Int.reduceAdd]; omega) | (simp (disch := omega) only [sA_same, sA_ne, ud_eq, ud_ne, Int.add_zero, Int.reduceAdd]; omega)) (fun g1 => ?_) (fun g2 => ?_)
  · have gH := g1
    obtain ⟨i4, i5, i6, i7⟩ := i3 gH
    have gN : ¬ (hdF (m 86) (m 81 6) (m 81 7)).1 = false := by rw [gH]; decide
    (try simp (disch := omega) only [sA_same, sA_ne, sA_sA, sA_sr, sB_s, ud_eq, ud_ne, ud_ud, ud_sr, uB_s, Int.add_zero, Int.reduceAdd] at g1)
    (try simp (disch := omega) only [sA_same, sA_ne, sA_sA, sA_sr, sB_s, ud_eq, ud_ne, ud_ud, ud_sr, uB_s, Int.add_zero, Int.reduceAdd])
    refine v_if_ne_y (t := 10) xB_139 dX11_takesClause_5 (by decide) rfl (by decide) ?_
    refine v_aload_n (n := 11) xB_139 dX11_takesClause_10 rfl rfl ?_
    refine v_gf_s (n := 14) (kz := 11) xB_139 dX11_takesClause_11 xO_139 fl_11_44 fg_11_11 (sh_81 _ _ _) rfl st_81_11 rfl ?_
    refine v_iload_n (n := 15) xB_139 dX11_takesClause_14 rfl rfl ?_
    refine v_iaload (n := 16) (lz := 60) xB_139 dX11_takesClause_15 (sh_88 _ _ _) rfl (by first | omega | (simp only [sA_same, sA_s, ud_s, Int.reduceEq, if_true, if_false, ite_true, ite_false, ↓reduceIte, and_true, true_and, eq_self, Int.add_zero, Int.reduceAdd]; omega) | (simp (disch := omega) only [sA_same, sA_ne, ud_eq, ud_ne, Int.add_zero, Int.reduceAdd]; omega)) rfl ?_
    refine v_iconst (n := 17) xB_139 dX11_takesClause_16 ⟨by decide, by decide⟩ rfl ?_
    refine v_ic_lt (t := 26) (n := 20) xB_139 dX11_takesClause_17 (by decide) rfl rfl (fun g3 => ?_) (fun g3 => ?_)
    · (try simp (disch := omega) only [sA_same, sA_ne, sA_sA, sA_sr, sB_s, ud_eq, ud_ne, ud_ud, ud_sr, uB_s, Int.add_zero, Int.reduceAdd] at g3)
      refine v_aload_n (n := 27) xB_139 dX11_takesClause_26 rfl rfl ?_
      refine v_call_v (n := 30) xB_139 dX11_takesClause_27 xO_139 iv_11_248 rfl (sh_81 _ _ _) rfl rfl rfl ?_
      refine c_takesNumber (by omega) (by first | omega | (simp only [sA_same, sA_s, ud_s, Int.reduceEq, if_true, if_false, ite_true, ite_false, ↓reduceIte, and_true, true_and, eq_self, Int.add_zero, Int.reduceAdd]; omega) | (simp (disch := omega) only [sA_same, sA_ne, ud_eq, ud_ne, Int.add_zero, Int.reduceAdd]; omega)) (fun g4 => ?_) (fun g5 => ?_)
      · (try simp (disch := omega) only [sA_same, sA_ne, sA_sA, sA_sr, sB_s, ud_eq, ud_ne, ud_ud, ud_sr, uB_s, Int.add_zero, Int.reduceAdd] at g4)
        (try simp (disch := omega) only [sA_same, sA_ne, sA_sA, sA_sr, sB_s, ud_eq, ud_ne, ud_ud, ud_sr, uB_s, Int.add_zero, Int.reduceAdd])
        refine v_if_ne_y (t := 35) xB_139 dX11_takesClause_30 (by decide) rfl (by decide) ?_
        have nm := nmv_in (m 86) (n := m 81 6) (a := (hdF (m 86) (m 81 6) (m 81 7)).2.1) (by omega)
        refine v_aload_n (n := 36) xB_139 dX11_takesClause_35 rfl rfl ?_
        refine v_gf_s (n := 39) (kz := 12) xB_139 dX11_takesClause_36 xO_139 fl_11_47 fg_11_12 (sh_81 _ _ _) rfl st_81_12 rfl ?_
        refine v_iload_n (n := 40) xB_139 dX11_takesClause_39 rfl rfl ?_
        refine v_aload_n (n := 41) xB_139 dX11_takesClause_40 rfl rfl ?_
        refine v_gf_i (n := 44) (kz := 8) xB_139 dX11_takesClause_41 xO_139 fl_11_35 fg_11_8 rfl (sh_81 _ _ _) rfl rfl ?_
        refine v_iastore (n := 45) (lz := 60) xB_139 dX11_takesClause_44 (sh_89 _ _ _) (by decide) rfl (by first | omega | (simp only [sA_same, sA_s, ud_s, Int.reduceEq, if_true, if_false, ite_true, ite_false, ↓reduceIte, and_true, true_and, eq_self, Int.add_zero, Int.reduceAdd]; omega) | (simp (disch := omega) only [sA_same, sA_ne, ud_eq, ud_ne, Int.add_zero, Int.reduceAdd]; omega)) rfl ?_
        (try simp (disch := omega) only [sA_same, sA_ne, sA_sA, sA_sr, sB_s, ud_eq, ud_ne, ud_ud, ud_sr, uB_s, Int.add_zero, Int.reduceAdd])
        refine v_iconst (n := 46) xB_139 dX11_takesClause_45 ⟨by decide, by decide⟩ rfl ?_
        refine v_ireturn1 xB_139 dX11_takesClause_46 xK_139 (by decide) ?_
        first
        | (have e : clF (m 86) (m 81 6) (m 81 7) = (false, ((hdF (m 86) (m 81 6) (m 81 7)).2.1, (0, (0, [])))) := by unfold clF; rw [if_pos (by assumption)]
           rw [e] at o2
           exact o2 rfl _ ⟨fun x p q => by simp (disch := omega) only [sA_ne], fun k p q r s t => by simp (disch := omega) only [sA_ne, sA_same, ud_ne], fun i hi => by simp (disch := omega) only [sA_ne, sA_same, ud_ne, and_self], fun i hi => by simp (disch := omega) only [sA_ne], by simp (disch := omega) only [sA_ne, sA_same, ud_eq, ud_ne]⟩)
        | (have e : clF (m 86) (m 81 6) (m 81 7) = (false, ((hdF (m 86) (m 81 6) (m 81 7)).2.1, (0, (0, [])))) := by unfold clF; rw [if_neg gN, if_pos (by omega), if_pos (by omega)]
           rw [e] at o2
           exact o2 rfl _ ⟨fun x p q => by simp (disch := omega) only [sA_ne], fun k p q r s t => by simp (disch := omega) only [sA_ne, sA_same, ud_ne], fun i hi => by simp (disch := omega) only [sA_ne, sA_same, ud_ne, and_self], fun i hi => by simp (disch := omega) only [sA_ne], by simp (disch := omega) only [sA_ne, sA_same, ud_eq, ud_ne]⟩)
        | (have e : clF (m 86) (m 81 6) (m 81 7) = (true, ((nmv (m 86) (m 81 6) (hdF (m 86) (m 81 6) (m 81 7)).2.1).2, ((hdF (m 86) (m 81 6) (m 81 7)).2.2, ((nmv (m 86) (m 81 6) (hdF (m 86) (m 81 6) (m 81 7)).2.1).1, [])))) := by unfold clF; rw [if_neg gN, if_pos (by omega), if_neg (by omega)]
           rw [e] at o1
           refine o1 rfl _ ⟨fun x p q => by simp (disch := omega) only [sA_ne], fun k p q r s t => by simp (disch := omega) only [sA_ne, sA_same, ud_ne], fun i hi => by simp (disch := omega) only [sA_ne, sA_same, ud_ne, and_self], fun i hi => by simp (disch := omega) only [sA_ne], by simp (disch := omega) only [sA_ne, sA_same, ud_eq, ud_ne]⟩ ⟨by simp (disch := omega) only [sA_ne, sA_same, ud_ne, List.length_nil]; omega, by simp (disch := omega) only [sA_ne, sA_same, ud_eq]; exact i7.symm, fun _ => by simp (disch := omega) only [sA_ne, sA_same, ud_eq], fun q => absurd q (by dsimp only; omega)⟩)
        | (have e : clF (m 86) (m 81 6) (m 81 7) = ((EF (m 86) (m 81 6) (hdF (m 86) (m 81 6) (m 81 7)).2.1).1, ((EF (m 86) (m 81 6) (hdF (m 86) (m 81 6) (m 81 7)).2.1).2.1, ((hdF (m 86) (m 81 6) (m 81 7)).2.2, (0, (EF (m 86) (m 81 6) (hdF (m 86) (m 81 6) (m 81 7)).2.1).2.2)))) := by unfold clF; rw [if_neg gN, if_neg (by omega)]
           rw [e] at o1
           have w1 := hA.2.2.2.2.2.2.1
           have w2 := hA.2.2.2.2.2.2.2.2.1
           have w3 := hA.1 88 (by omega) (by omega) (by omega) (by omega)
           have w4 := hA.1 90 (by omega) (by omega) (by omega) (by omega)
           simp (disch := omega) only [sA_ne, sA_same, ud_ne] at w1 w2 w3 w4
           rw [List.length_map] at w1
           exact o1 gE _ hF ⟨w1, by rw [w3, ud_eq]; exact i7.symm, fun q => absurd q (by dsimp only; omega), fun _ => ⟨by rw [w4, ud_eq], h91, w2⟩⟩)
        | (have e : clF (m 86) (m 81 6) (m 81 7) = ((EF (m 86) (m 81 6) (hdF (m 86) (m 81 6) (m 81 7)).2.1).1, ((EF (m 86) (m 81 6) (hdF (m 86) (m 81 6) (m 81 7)).2.1).2.1, ((hdF (m 86) (m 81 6) (m 81 7)).2.2, (0, (EF (m 86) (m 81 6) (hdF (m 86) (m 81 6) (m 81 7)).2.1).2.2)))) := by unfold clF; rw [if_neg gN, if_neg (by omega)]
           rw [e] at o2
           exact o2 gE _ hF)
      · (try simp (disch := omega) only [sA_same, sA_ne, sA_sA, sA_sr, sB_s, ud_eq, ud_ne, ud_ud, ud_sr, uB_s, Int.add_zero, Int.reduceAdd] at g5)
        (try simp (disch := omega) only [sA_same, sA_ne, sA_sA, sA_sr, sB_s, ud_eq, ud_ne, ud_ud, ud_sr, uB_s, Int.add_zero, Int.reduceAdd])
        refine v_if_ne_n (n := 33) xB_139 dX11_takesClause_30 (by decide) rfl (by decide) ?_
        refine v_iconst (n := 34) xB_139 dX11_takesClause_33 ⟨by decide, by decide⟩ rfl ?_
        refine v_ireturn1 xB_139 dX11_takesClause_34 xK_139 (by decide) ?_
        first
        | (have e : clF (m 86) (m 81 6) (m 81 7) = (false, ((hdF (m 86) (m 81 6) (m 81 7)).2.1, (0, (0, [])))) := by unfold clF; rw [if_pos (by assumption)]
           rw [e] at o2
           exact o2 rfl _ ⟨fun x p q => by simp (disch := omega) only [sA_ne], fun k p q r s t => by simp (disch := omega) only [sA_ne, sA_same, ud_ne], fun i hi => by simp (disch := omega) only [sA_ne, sA_same, ud_ne, and_self], fun i hi => by simp (disch := omega) only [sA_ne], by simp (disch := omega) only [sA_ne, sA_same, ud_eq, ud_ne]⟩)
        | (have e : clF (m 86) (m 81 6) (m 81 7) = (false, ((hdF (m 86) (m 81 6) (m 81 7)).2.1, (0, (0, [])))) := by unfold clF; rw [if_neg gN, if_pos (by omega), if_pos (by omega)]
           rw [e] at o2
           exact o2 rfl _ ⟨fun x p q => by simp (disch := omega) only [sA_ne], fun k p q r s t => by simp (disch := omega) only [sA_ne, sA_same, ud_ne], fun i hi => by simp (disch := omega) only [sA_ne, sA_same, ud_ne, and_self], fun i hi => by simp (disch := omega) only [sA_ne], by simp (disch := omega) only [sA_ne, sA_same, ud_eq, ud_ne]⟩)
        | (have e : clF (m 86) (m 81 6) (m 81 7) = (true, ((nmv (m 86) (m 81 6) (hdF (m 86) (m 81 6) (m 81 7)).2.1).2, ((hdF (m 86) (m 81 6) (m 81 7)).2.2, ((nmv (m 86) (m 81 6) (hdF (m 86) (m 81 6) (m 81 7)).2.1).1, [])))) := by unfold clF; rw [if_neg gN, if_pos (by omega), if_neg (by omega)]
           rw [e] at o1
           refine o1 rfl _ ⟨fun x p q => by simp (disch := omega) only [sA_ne], fun k p q r s t => by simp (disch := omega) only [sA_ne, sA_same, ud_ne], fun i hi => by simp (disch := omega) only [sA_ne, sA_same, ud_ne, and_self], fun i hi => by simp (disch := omega) only [sA_ne], by simp (disch := omega) only [sA_ne, sA_same, ud_eq, ud_ne]⟩ ⟨by simp (disch := omega) only [sA_ne, sA_same, ud_ne, List.length_nil]; omega, by simp (disch := omega) only [sA_ne, sA_same, ud_eq]; exact i7.symm, fun _ => by simp (disch := omega) only [sA_ne, sA_same, ud_eq], fun q => absurd q (by dsimp only; omega)⟩)
        | (have e : clF (m 86) (m 81 6) (m 81 7) = ((EF (m 86) (m 81 6) (hdF (m 86) (m 81 6) (m 81 7)).2.1).1, ((EF (m 86) (m 81 6) (hdF (m 86) (m 81 6) (m 81 7)).2.1).2.1, ((hdF (m 86) (m 81 6) (m 81 7)).2.2, (0, (EF (m 86) (m 81 6) (hdF (m 86) (m 81 6) (m 81 7)).2.1).2.2)))) := by unfold clF; rw [if_neg gN, if_neg (by omega)]
           rw [e] at o1
           have w1 := hA.2.2.2.2.2.2.1
           have w2 := hA.2.2.2.2.2.2.2.2.1
           have w3 := hA.1 88 (by omega) (by omega) (by omega) (by omega)
           have w4 := hA.1 90 (by omega) (by omega) (by omega) (by omega)
           simp (disch := omega) only [sA_ne, sA_same, ud_ne] at w1 w2 w3 w4
           rw [List.length_map] at w1
           exact o1 gE _ hF ⟨w1, by rw [w3, ud_eq]; exact i7.symm, fun q => absurd q (by dsimp only; omega), fun _ => ⟨by rw [w4, ud_eq], h91, w2⟩⟩)
        | (have e : clF (m 86) (m 81 6) (m 81 7) = ((EF (m 86) (m 81 6) (hdF (m 86) (m 81 6) (m 81 7)).2.1).1, ((EF (m 86) (m 81 6) (hdF (m 86) (m 81 6) (m 81 7)).2.1).2.1, ((hdF (m 86) (m 81 6) (m 81 7)).2.2, (0, (EF (m 86) (m 81 6) (hdF (m 86) (m 81 6) (m 81 7)).2.1).2.2)))) := by unfold clF; rw [if_neg gN, if_neg (by omega)]
           rw [e] at o2
           exact o2 gE _ hF)
    · (try simp (disch := omega) only [sA_same, sA_ne, sA_sA, sA_sr, sB_s, ud_eq, ud_ne, ud_ud, ud_sr, uB_s, Int.add_zero, Int.reduceAdd] at g3)
      refine v_aload_n (n := 21) xB_139 dX11_takesClause_20 rfl rfl ?_
      refine v_iload_n (n := 22) xB_139 dX11_takesClause_21 rfl rfl ?_
      refine v_call_v (n := 25) xB_139 dX11_takesClause_22 xO_139 iv_11_270 rfl (sh_81 _ _ _) rfl rfl rfl ?_
      refine c_takesE (B := B) (by omega) (by first | omega | (simp only [sA_same, sA_s, ud_s, Int.reduceEq, if_true, if_false, ite_true, ite_false, ↓reduceIte, and_true, true_and, eq_self, Int.add_zero, Int.reduceAdd]; omega) | (simp (disch := omega) only [sA_same, sA_ne, ud_eq, ud_ne, Int.add_zero, Int.reduceAdd]; omega)) (by first | omega | (simp only [sA_same, sA_s, ud_s, Int.reduceEq, if_true, if_false, ite_true, ite_false, ↓reduceIte, and_true, true_and, eq_self, Int.add_zero, Int.reduceAdd]; omega) | (simp (disch := omega) only [sA_same, sA_ne, ud_eq, ud_ne, Int.add_zero, Int.reduceAdd]; omega)) (by first | omega | (simp only [sA_same, sA_s, ud_s, Int.reduceEq, if_true, if_false, ite_true, ite_false, ↓reduceIte, and_true, true_and, eq_self, Int.add_zero, Int.reduceAdd]; omega) | (simp (disch := omega) only [sA_same, sA_ne, ud_eq, ud_ne, Int.add_zero, Int.reduceAdd]; omega)) hB (by first | omega | (simp only [sA_same, sA_s, ud_s, Int.reduceEq, if_true, if_false, ite_true, ite_false, ↓reduceIte, and_true, true_and, eq_self, Int.add_zero, Int.reduceAdd]; omega) | (simp (disch := omega) only [sA_same, sA_ne, ud_eq, ud_ne, Int.add_zero, Int.reduceAdd]; omega)) (fun gE mA hA h91 => ?_) (fun gE mA WA EA hA => ?_)
      · (try simp (disch := omega) only [sA_same, sA_ne, sA_sA, sA_sr, sB_s, ud_eq, ud_ne, ud_ud, ud_sr, uB_s, Int.add_zero, Int.reduceAdd] at gE hA)
        have hF : Fc m mA c (EF (m 86) (m 81 6) (hdF (m 86) (m 81 6) (m 81 7)).2.1).2.1 := Fc_E hA (fun x p q => by simp (disch := omega) only [sA_ne]) (fun k p q r s t => by simp (disch := omega) only [sA_ne, sA_same, ud_ne]) (fun i hi => by simp (disch := omega) only [sA_ne, sA_same, ud_ne, and_self]) (by simp (disch := omega) only [sA_ne]) (by simp (disch := omega) only [sA_ne, sA_same, ud_ne])
        refine v_ireturn1 xB_139 dX11_takesClause_25 xK_139 (by decide) ?_
        first
        | (have e : clF (m 86) (m 81 6) (m 81 7) = (false, ((hdF (m 86) (m 81 6) (m 81 7)).2.1, (0, (0, [])))) := by unfold clF; rw [if_pos (by assumption)]
           rw [e] at o2
           exact o2 rfl _ ⟨fun x p q => by simp (disch := omega) only [sA_ne], fun k p q r s t => by simp (disch := omega) only [sA_ne, sA_same, ud_ne], fun i hi => by simp (disch := omega) only [sA_ne, sA_same, ud_ne, and_self], fun i hi => by simp (disch := omega) only [sA_ne], by simp (disch := omega) only [sA_ne, sA_same, ud_eq, ud_ne]⟩)
        | (have e : clF (m 86) (m 81 6) (m 81 7) = (false, ((hdF (m 86) (m 81 6) (m 81 7)).2.1, (0, (0, [])))) := by unfold clF; rw [if_neg gN, if_pos (by omega), if_pos (by omega)]
           rw [e] at o2
           exact o2 rfl _ ⟨fun x p q => by simp (disch := omega) only [sA_ne], fun k p q r s t => by simp (disch := omega) only [sA_ne, sA_same, ud_ne], fun i hi => by simp (disch := omega) only [sA_ne, sA_same, ud_ne, and_self], fun i hi => by simp (disch := omega) only [sA_ne], by simp (disch := omega) only [sA_ne, sA_same, ud_eq, ud_ne]⟩)
        | (have e : clF (m 86) (m 81 6) (m 81 7) = (true, ((nmv (m 86) (m 81 6) (hdF (m 86) (m 81 6) (m 81 7)).2.1).2, ((hdF (m 86) (m 81 6) (m 81 7)).2.2, ((nmv (m 86) (m 81 6) (hdF (m 86) (m 81 6) (m 81 7)).2.1).1, [])))) := by unfold clF; rw [if_neg gN, if_pos (by omega), if_neg (by omega)]
           rw [e] at o1
           refine o1 rfl _ ⟨fun x p q => by simp (disch := omega) only [sA_ne], fun k p q r s t => by simp (disch := omega) only [sA_ne, sA_same, ud_ne], fun i hi => by simp (disch := omega) only [sA_ne, sA_same, ud_ne, and_self], fun i hi => by simp (disch := omega) only [sA_ne], by simp (disch := omega) only [sA_ne, sA_same, ud_eq, ud_ne]⟩ ⟨by simp (disch := omega) only [sA_ne, sA_same, ud_ne, List.length_nil]; omega, by simp (disch := omega) only [sA_ne, sA_same, ud_eq]; exact i7.symm, fun _ => by simp (disch := omega) only [sA_ne, sA_same, ud_eq], fun q => absurd q (by dsimp only; omega)⟩)
        | (have e : clF (m 86) (m 81 6) (m 81 7) = ((EF (m 86) (m 81 6) (hdF (m 86) (m 81 6) (m 81 7)).2.1).1, ((EF (m 86) (m 81 6) (hdF (m 86) (m 81 6) (m 81 7)).2.1).2.1, ((hdF (m 86) (m 81 6) (m 81 7)).2.2, (0, (EF (m 86) (m 81 6) (hdF (m 86) (m 81 6) (m 81 7)).2.1).2.2)))) := by unfold clF; rw [if_neg gN, if_neg (by omega)]
           rw [e] at o1
           have w1 := hA.2.2.2.2.2.2.1
           have w2 := hA.2.2.2.2.2.2.2.2.1
           have w3 := hA.1 88 (by omega) (by omega) (by omega) (by omega)
           have w4 := hA.1 90 (by omega) (by omega) (by omega) (by omega)
           simp (disch := omega) only [sA_ne, sA_same, ud_ne] at w1 w2 w3 w4
           rw [List.length_map] at w1
           exact o1 gE _ hF ⟨w1, by rw [w3, ud_eq]; exact i7.symm, fun q => absurd q (by dsimp only; omega), fun _ => ⟨by rw [w4, ud_eq], h91, w2⟩⟩)
        | (have e : clF (m 86) (m 81 6) (m 81 7) = ((EF (m 86) (m 81 6) (hdF (m 86) (m 81 6) (m 81 7)).2.1).1, ((EF (m 86) (m 81 6) (hdF (m 86) (m 81 6) (m 81 7)).2.1).2.1, ((hdF (m 86) (m 81 6) (m 81 7)).2.2, (0, (EF (m 86) (m 81 6) (hdF (m 86) (m 81 6) (m 81 7)).2.1).2.2)))) := by unfold clF; rw [if_neg gN, if_neg (by omega)]
           rw [e] at o2
           exact o2 gE _ hF)
      · (try simp (disch := omega) only [sA_same, sA_ne, sA_sA, sA_sr, sB_s, ud_eq, ud_ne, ud_ud, ud_sr, uB_s, Int.add_zero, Int.reduceAdd] at gE hA)
        have hF : Fc m mA c (EF (m 86) (m 81 6) (hdF (m 86) (m 81 6) (m 81 7)).2.1).2.1 := Fc_E hA (fun x p q => by simp (disch := omega) only [sA_ne]) (fun k p q r s t => by simp (disch := omega) only [sA_ne, sA_same, ud_ne]) (fun i hi => by simp (disch := omega) only [sA_ne, sA_same, ud_ne, and_self]) (by simp (disch := omega) only [sA_ne]) (by simp (disch := omega) only [sA_ne, sA_same, ud_ne])
        refine v_ireturn1 xB_139 dX11_takesClause_25 xK_139 (by decide) ?_
        first
        | (have e : clF (m 86) (m 81 6) (m 81 7) = (false, ((hdF (m 86) (m 81 6) (m 81 7)).2.1, (0, (0, [])))) := by unfold clF; rw [if_pos (by assumption)]
           rw [e] at o2
           exact o2 rfl _ ⟨fun x p q => by simp (disch := omega) only [sA_ne], fun k p q r s t => by simp (disch := omega) only [sA_ne, sA_same, ud_ne], fun i hi => by simp (disch := omega) only [sA_ne, sA_same, ud_ne, and_self], fun i hi => by simp (disch := omega) only [sA_ne], by simp (disch := omega) only [sA_ne, sA_same, ud_eq, ud_ne]⟩)
        | (have e : clF (m 86) (m 81 6) (m 81 7) = (false, ((hdF (m 86) (m 81 6) (m 81 7)).2.1, (0, (0, [])))) := by unfold clF; rw [if_neg gN, if_pos (by omega), if_pos (by omega)]
           rw [e] at o2
           exact o2 rfl _ ⟨fun x p q => by simp (disch := omega) only [sA_ne], fun k p q r s t => by simp (disch := omega) only [sA_ne, sA_same, ud_ne], fun i hi => by simp (disch := omega) only [sA_ne, sA_same, ud_ne, and_self], fun i hi => by simp (disch := omega) only [sA_ne], by simp (disch := omega) only [sA_ne, sA_same, ud_eq, ud_ne]⟩)
        | (have e : clF (m 86) (m 81 6) (m 81 7) = (true, ((nmv (m 86) (m 81 6) (hdF (m 86) (m 81 6) (m 81 7)).2.1).2, ((hdF (m 86) (m 81 6) (m 81 7)).2.2, ((nmv (m 86) (m 81 6) (hdF (m 86) (m 81 6) (m 81 7)).2.1).1, [])))) := by unfold clF; rw [if_neg gN, if_pos (by omega), if_neg (by omega)]
           rw [e] at o1
           refine o1 rfl _ ⟨fun x p q => by simp (disch := omega) only [sA_ne], fun k p q r s t => by simp (disch := omega) only [sA_ne, sA_same, ud_ne], fun i hi => by simp (disch := omega) only [sA_ne, sA_same, ud_ne, and_self], fun i hi => by simp (disch := omega) only [sA_ne], by simp (disch := omega) only [sA_ne, sA_same, ud_eq, ud_ne]⟩ ⟨by simp (disch := omega) only [sA_ne, sA_same, ud_ne, List.length_nil]; omega, by simp (disch := omega) only [sA_ne, sA_same, ud_eq]; exact i7.symm, fun _ => by simp (disch := omega) only [sA_ne, sA_same, ud_eq], fun q => absurd q (by dsimp only; omega)⟩)
        | (have e : clF (m 86) (m 81 6) (m 81 7) = ((EF (m 86) (m 81 6) (hdF (m 86) (m 81 6) (m 81 7)).2.1).1, ((EF (m 86) (m 81 6) (hdF (m 86) (m 81 6) (m 81 7)).2.1).2.1, ((hdF (m 86) (m 81 6) (m 81 7)).2.2, (0, (EF (m 86) (m 81 6) (hdF (m 86) (m 81 6) (m 81 7)).2.1).2.2)))) := by unfold clF; rw [if_neg gN, if_neg (by omega)]
           rw [e] at o1
           have w1 := hA.2.2.2.2.2.2.1
           have w2 := hA.2.2.2.2.2.2.2.2.1
           have w3 := hA.1 88 (by omega) (by omega) (by omega) (by omega)
           have w4 := hA.1 90 (by omega) (by omega) (by omega) (by omega)
           simp (disch := omega) only [sA_ne, sA_same, ud_ne] at w1 w2 w3 w4
           rw [List.length_map] at w1
           exact o1 gE _ hF ⟨w1, by rw [w3, ud_eq]; exact i7.symm, fun q => absurd q (by dsimp only; omega), fun _ => ⟨by rw [w4, ud_eq], h91, w2⟩⟩)
        | (have e : clF (m 86) (m 81 6) (m 81 7) = ((EF (m 86) (m 81 6) (hdF (m 86) (m 81 6) (m 81 7)).2.1).1, ((EF (m 86) (m 81 6) (hdF (m 86) (m 81 6) (m 81 7)).2.1).2.1, ((hdF (m 86) (m 81 6) (m 81 7)).2.2, (0, (EF (m 86) (m 81 6) (hdF (m 86) (m 81 6) (m 81 7)).2.1).2.2)))) := by unfold clF; rw [if_neg gN, if_neg (by omega)]
           rw [e] at o2
           exact o2 gE _ hF)
  · (try simp (disch := omega) only [sA_same, sA_ne, sA_sA, sA_sr, sB_s, ud_eq, ud_ne, ud_ud, ud_sr, uB_s, Int.add_zero, Int.reduceAdd] at g2)
    (try simp (disch := omega) only [sA_same, sA_ne, sA_sA, sA_sr, sB_s, ud_eq, ud_ne, ud_ud, ud_sr, uB_s, Int.add_zero, Int.reduceAdd])
    refine v_if_ne_n (n := 8) xB_139 dX11_takesClause_5 (by decide) rfl (by decide) ?_
    refine v_iconst (n := 9) xB_139 dX11_takesClause_8 ⟨by decide, by decide⟩ rfl ?_
    refine v_ireturn1 xB_139 dX11_takesClause_9 xK_139 (by decide) ?_
    first
    | (have e : clF (m 86) (m 81 6) (m 81 7) = (false, ((hdF (m 86) (m 81 6) (m 81 7)).2.1, (0, (0, [])))) := by unfold clF; rw [if_pos (by assumption)]
       rw [e] at o2
       exact o2 rfl _ ⟨fun x p q => by simp (disch := omega) only [sA_ne], fun k p q r s t => by simp (disch := omega) only [sA_ne, sA_same, ud_ne], fun i hi => by simp (disch := omega) only [sA_ne, sA_same, ud_ne, and_self], fun i hi => by simp (disch := omega) only [sA_ne], by simp (disch := omega) only [sA_ne, sA_same, ud_eq, ud_ne]⟩)
    | (have e : clF (m 86) (m 81 6) (m 81 7) = (false, ((hdF (m 86) (m 81 6) (m 81 7)).2.1, (0, (0, [])))) := by unfold clF; rw [if_neg gN, if_pos (by omega), if_pos (by omega)]
       rw [e] at o2
       exact o2 rfl _ ⟨fun x p q => by simp (disch := omega) only [sA_ne], fun k p q r s t => by simp (disch := omega) only [sA_ne, sA_same, ud_ne], fun i hi => by simp (disch := omega) only [sA_ne, sA_same, ud_ne, and_self], fun i hi => by simp (disch := omega) only [sA_ne], by simp (disch := omega) only [sA_ne, sA_same, ud_eq, ud_ne]⟩)
    | (have e : clF (m 86) (m 81 6) (m 81 7) = (true, ((nmv (m 86) (m 81 6) (hdF (m 86) (m 81 6) (m 81 7)).2.1).2, ((hdF (m 86) (m 81 6) (m 81 7)).2.2, ((nmv (m 86) (m 81 6) (hdF (m 86) (m 81 6) (m 81 7)).2.1).1, [])))) := by unfold clF; rw [if_neg gN, if_pos (by omega), if_neg (by omega)]
       rw [e] at o1
       refine o1 rfl _ ⟨fun x p q => by simp (disch := omega) only [sA_ne], fun k p q r s t => by simp (disch := omega) only [sA_ne, sA_same, ud_ne], fun i hi => by simp (disch := omega) only [sA_ne, sA_same, ud_ne, and_self], fun i hi => by simp (disch := omega) only [sA_ne], by simp (disch := omega) only [sA_ne, sA_same, ud_eq, ud_ne]⟩ ⟨by simp (disch := omega) only [sA_ne, sA_same, ud_ne, List.length_nil]; omega, by simp (disch := omega) only [sA_ne, sA_same, ud_eq]; exact i7.symm, fun _ => by simp (disch := omega) only [sA_ne, sA_same, ud_eq], fun q => absurd q (by dsimp only; omega)⟩)
    | (have e : clF (m 86) (m 81 6) (m 81 7) = ((EF (m 86) (m 81 6) (hdF (m 86) (m 81 6) (m 81 7)).2.1).1, ((EF (m 86) (m 81 6) (hdF (m 86) (m 81 6) (m 81 7)).2.1).2.1, ((hdF (m 86) (m 81 6) (m 81 7)).2.2, (0, (EF (m 86) (m 81 6) (hdF (m 86) (m 81 6) (m 81 7)).2.1).2.2)))) := by unfold clF; rw [if_neg gN, if_neg (by omega)]
       rw [e] at o1
       have w1 := hA.2.2.2.2.2.2.1
       have w2 := hA.2.2.2.2.2.2.2.2.1
       have w3 := hA.1 88 (by omega) (by omega) (by omega) (by omega)
       have w4 := hA.1 90 (by omega) (by omega) (by omega) (by omega)
       simp (disch := omega) only [sA_ne, sA_same, ud_ne] at w1 w2 w3 w4
       rw [List.length_map] at w1
       exact o1 gE _ hF ⟨w1, by rw [w3, ud_eq]; exact i7.symm, fun q => absurd q (by dsimp only; omega), fun _ => ⟨by rw [w4, ud_eq], h91, w2⟩⟩)
    | (have e : clF (m 86) (m 81 6) (m 81 7) = ((EF (m 86) (m 81 6) (hdF (m 86) (m 81 6) (m 81 7)).2.1).1, ((EF (m 86) (m 81 6) (hdF (m 86) (m 81 6) (m 81 7)).2.1).2.1, ((hdF (m 86) (m 81 6) (m 81 7)).2.2, (0, (EF (m 86) (m 81 6) (hdF (m 86) (m 81 6) (m 81 7)).2.1).2.2)))) := by unfold clF; rw [if_neg gN, if_neg (by omega)]
       rw [e] at o2
       exact o2 gE _ hF)
