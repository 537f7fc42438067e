/-! The image: the reference. -/
theorem sA_x {m : PM} {a : Int} {f : Int → Int} (h : f = m a) : setA m a f = m := by rw [h, sA_id]
theorem ch_image_234 {m : PM} {f81 g81 f111 g111 f112 g112 f113 g113 f114 g114 f115 g115 f116 g116 f117 g117 f118 g118 f119 g119 f120 g120 f121 g121 f122 g122 f123 g123 : Int → Int} (e81 : f81 = g81) (e111 : f111 = g111) (e112 : f112 = g112) (e113 : f113 = g113) (e114 : f114 = g114) (e115 : f115 = g115) (e116 : f116 = g116) (e117 : f117 = g117) (e118 : f118 = g118) (e119 : f119 = g119) (e120 : f120 = g120) (e121 : f121 = g121) (e122 : f122 = g122) (e123 : f123 = g123) : setA (setA (setA (setA (setA (setA (setA (setA (setA (setA (setA (setA (setA (setA (m) 81 (f81)) 111 (f111)) 112 (f112)) 113 (f113)) 114 (f114)) 115 (f115)) 116 (f116)) 117 (f117)) 118 (f118)) 119 (f119)) 120 (f120)) 121 (f121)) 122 (f122)) 123 (f123) = setA (setA (setA (setA (setA (setA (setA (setA (setA (setA (setA (setA (setA (setA (m) 81 (g81)) 111 (g111)) 112 (g112)) 113 (g113)) 114 (g114)) 115 (g115)) 116 (g116)) 117 (g117)) 118 (g118)) 119 (g119)) 120 (g120)) 121 (g121)) 122 (g122)) 123 (g123) := by rw [e81, e111, e112, e113, e114, e115, e116, e117, e118, e119, e120, e121, e122, e123]
theorem ch_image_184 {m : PM} {f81 g81 f111 g111 f112 g112 f113 g113 f114 g114 f115 g115 f116 g116 f117 g117 f118 g118 f119 g119 f120 g120 f123 g123 : Int → Int} (e81 : f81 = g81) (e111 : f111 = g111) (e112 : f112 = g112) (e113 : f113 = g113) (e114 : f114 = g114) (e115 : f115 = g115) (e116 : f116 = g116) (e117 : f117 = g117) (e118 : f118 = g118) (e119 : f119 = g119) (e120 : f120 = g120) (e123 : f123 = g123) : setA (setA (setA (setA (setA (setA (setA (setA (setA (setA (setA (setA (m) 81 (f81)) 111 (f111)) 112 (f112)) 113 (f113)) 114 (f114)) 115 (f115)) 116 (f116)) 117 (f117)) 118 (f118)) 119 (f119)) 120 (f120)) 123 (f123) = setA (setA (setA (setA (setA (setA (setA (setA (setA (setA (setA (setA (m) 81 (g81)) 111 (g111)) 112 (g112)) 113 (g113)) 114 (g114)) 115 (g115)) 116 (g116)) 117 (g117)) 118 (g118)) 119 (g119)) 120 (g120)) 123 (g123) := by rw [e81, e111, e112, e113, e114, e115, e116, e117, e118, e119, e120, e123]
theorem ch_image_158 {m : PM} {f81 g81 f111 g111 f112 g112 f113 g113 f114 g114 f115 g115 f116 g116 f117 g117 f123 g123 : Int → Int} (e81 : f81 = g81) (e111 : f111 = g111) (e112 : f112 = g112) (e113 : f113 = g113) (e114 : f114 = g114) (e115 : f115 = g115) (e116 : f116 = g116) (e117 : f117 = g117) (e123 : f123 = g123) : setA (setA (setA (setA (setA (setA (setA (setA (setA (m) 81 (f81)) 111 (f111)) 112 (f112)) 113 (f113)) 114 (f114)) 115 (f115)) 116 (f116)) 117 (f117)) 123 (f123) = setA (setA (setA (setA (setA (setA (setA (setA (setA (m) 81 (g81)) 111 (g111)) 112 (g112)) 113 (g113)) 114 (g114)) 115 (g115)) 116 (g116)) 117 (g117)) 123 (g123) := by rw [e81, e111, e112, e113, e114, e115, e116, e117, e123]
theorem ch_image_85 {m : PM} {f81 g81 f111 g111 f112 g112 f113 g113 f114 g114 f116 g116 f117 g117 f123 g123 : Int → Int} (e81 : f81 = g81) (e111 : f111 = g111) (e112 : f112 = g112) (e113 : f113 = g113) (e114 : f114 = g114) (e116 : f116 = g116) (e117 : f117 = g117) (e123 : f123 = g123) : setA (setA (setA (setA (setA (setA (setA (setA (m) 81 (f81)) 111 (f111)) 112 (f112)) 113 (f113)) 114 (f114)) 116 (f116)) 117 (f117)) 123 (f123) = setA (setA (setA (setA (setA (setA (setA (setA (m) 81 (g81)) 111 (g111)) 112 (g112)) 113 (g113)) 114 (g114)) 116 (g116)) 117 (g117)) 123 (g123) := by rw [e81, e111, e112, e113, e114, e116, e117, e123]
theorem ch_image_47 {m : PM} {f81 g81 f111 g111 f123 g123 : Int → Int} (e81 : f81 = g81) (e111 : f111 = g111) (e123 : f123 = g123) : setA (setA (setA (m) 81 (f81)) 111 (f111)) 123 (f123) = setA (setA (setA (m) 81 (g81)) 111 (g111)) 123 (g123) := by rw [e81, e111, e123]
set_option maxHeartbeats 1000000 in
theorem c_image {d : Nat}  {m : PM} {dy : List (Nat × Nat)} {L : Nat} {Q : Option PV → PS → Prop} (hd : 1 ≤ d) (hb : ∀ k, 0 ≤ k → k < 24 → m 99 k = 0 ∨ m 99 k = 1) (o1 : Q (some (.inl (m 81 22))) (setA (setA (setA (setA (setA (setA (setA (setA (setA (setA (setA (setA (setA (setA (m) 81 (ud (ud (ud (ud (ud (ud (m 81) 44 1) 45 (m 81 22)) 46 (m 81 0)) 47 (m 81 34)) 48 (m 81 37)) 49 (m 81 38))) 111 (ivl (m 96) (m 111) 0 24)) 112 (ivl (m 82) (m 112) 0 5)) 113 (ivl (m 83) (m 113) 0 5)) 114 (ivl (m 84) (m 114) 0 5)) 115 (ivl (m 85) (m 115) 0 20)) 116 (ivl (m 104) (m 116) 0 5)) 117 (ivl (m 105) (m 117) 0 5)) 118 (ivl (m 106) (m 118) 0 6)) 119 (ivl (m 107) (m 119) 0 6)) 120 (ivl (m 108) (m 120) 0 6)) 121 (ivl (m 109) (m 121) 0 8)) 122 (ivl (m 110) (m 122) 0 8)) 123 (ivl (m 99) (m 123) 0 24), (none, (dy, L)))) : C d 196 [.inr (.inr 81)] (m, (none, (dy, L))) Q := by
  refine C_go (k := 0) hd xL_196 (fun d hd => ?_)
  show V d 196 (0, ([some (.inr (.inr 81)), none], ([], (m, (none, (dy, L)))))) Q
  refine v_aload_n (n := 1) xB_196 dX11_image_0 rfl rfl ?_
  refine v_iconst (n := 2) xB_196 dX11_image_1 ⟨by decide, by decide⟩ rfl ?_
  refine v_pf_z (n := 5) (kz := 44) xB_196 dX11_image_2 xO_196 fl_11_144 fg_11_44 (Or.inl fn_11_44) (sh_81 _ _ _) (by decide) rfl (by decide) rfl ?_
  (try simp (disch := omega) only [sA_same, sA_ne, sA_sA, sA_sr, sB_s, ud_eq, ud_ne, ud_ud, ud_sr, uB_s, Int.add_zero, Int.reduceAdd])
  refine v_aload_n (n := 6) xB_196 dX11_image_5 rfl rfl ?_
  refine v_aload_n (n := 7) xB_196 dX11_image_6 rfl rfl ?_
  refine v_gf_i (n := 10) (kz := 22) xB_196 dX11_image_7 xO_196 fl_11_78 fg_11_22 rfl (sh_81 _ _ _) rfl rfl ?_
  refine v_pf_i (n := 13) (kz := 45) xB_196 dX11_image_10 xO_196 fl_11_148 fg_11_45 (Or.inl fn_11_45) (sh_81 _ _ _) (by decide) rfl rfl ?_
  (try simp (disch := omega) only [sA_same, sA_ne, sA_sA, sA_sr, sB_s, ud_eq, ud_ne, ud_ud, ud_sr, uB_s, Int.add_zero, Int.reduceAdd])
  refine v_aload_n (n := 14) xB_196 dX11_image_13 rfl rfl ?_
  refine v_aload_n (n := 15) xB_196 dX11_image_14 rfl rfl ?_
  refine v_gf_i (n := 18) (kz := 0) xB_196 dX11_image_15 xO_196 fl_11_7 fg_11_0 rfl (sh_81 _ _ _) rfl rfl ?_
  refine v_pf_i (n := 21) (kz := 46) xB_196 dX11_image_18 xO_196 fl_11_151 fg_11_46 (Or.inl fn_11_46) (sh_81 _ _ _) (by decide) rfl rfl ?_
  (try simp (disch := omega) only [sA_same, sA_ne, sA_sA, sA_sr, sB_s, ud_eq, ud_ne, ud_ud, ud_sr, uB_s, Int.add_zero, Int.reduceAdd])
  refine v_aload_n (n := 22) xB_196 dX11_image_21 rfl rfl ?_
  refine v_aload_n (n := 23) xB_196 dX11_image_22 rfl rfl ?_
  refine v_gf_i (n := 26) (kz := 34) xB_196 dX11_image_23 xO_196 fl_11_114 fg_11_34 rfl (sh_81 _ _ _) rfl rfl ?_
  refine v_pf_i (n := 29) (kz := 47) xB_196 dX11_image_26 xO_196 fl_11_154 fg_11_47 (Or.inl fn_11_47) (sh_81 _ _ _) (by decide) rfl rfl ?_
  (try simp (disch := omega) only [sA_same, sA_ne, sA_sA, sA_sr, sB_s, ud_eq, ud_ne, ud_ud, ud_sr, uB_s, Int.add_zero, Int.reduceAdd])
  refine v_aload_n (n := 30) xB_196 dX11_image_29 rfl rfl ?_
  refine v_aload_n (n := 31) xB_196 dX11_image_30 rfl rfl ?_
  refine v_gf_i (n := 34) (kz := 37) xB_196 dX11_image_31 xO_196 fl_11_123 fg_11_37 rfl (sh_81 _ _ _) rfl rfl ?_
  refine v_pf_i (n := 37) (kz := 48) xB_196 dX11_image_34 xO_196 fl_11_157 fg_11_48 (Or.inl fn_11_48) (sh_81 _ _ _) (by decide) rfl rfl ?_
  (try simp (disch := omega) only [sA_same, sA_ne, sA_sA, sA_sr, sB_s, ud_eq, ud_ne, ud_ud, ud_sr, uB_s, Int.add_zero, Int.reduceAdd])
  refine v_aload_n (n := 38) xB_196 dX11_image_37 rfl rfl ?_
  refine v_aload_n (n := 39) xB_196 dX11_image_38 rfl rfl ?_
  refine v_gf_i (n := 42) (kz := 38) xB_196 dX11_image_39 xO_196 fl_11_126 fg_11_38 rfl (sh_81 _ _ _) rfl rfl ?_
  refine v_pf_i (n := 45) (kz := 49) xB_196 dX11_image_42 xO_196 fl_11_160 fg_11_49 (Or.inl fn_11_49) (sh_81 _ _ _) (by decide) rfl rfl ?_
  (try simp (disch := omega) only [sA_same, sA_ne, sA_sA, sA_sr, sB_s, ud_eq, ud_ne, ud_ud, ud_sr, uB_s, Int.add_zero, Int.reduceAdd])
  refine v_iconst (n := 46) xB_196 dX11_image_45 ⟨by decide, by decide⟩ rfl ?_
  refine v_istore_n1 (n := 47) xB_196 dX11_image_46 rfl rfl ?_
  (try simp (disch := omega) only [sA_same, sA_ne, sA_sA, sA_sr, sB_s, ud_eq, ud_ne, ud_ud, ud_sr, uB_s, Int.add_zero, Int.reduceAdd])
  refine lp_up (F := fun (k : Int) (m' : PM) => V d 196 (47, ([some (.inr (.inr 81)), some (.inl (k))], ([], (m', (none, (dy, L)))))) Q) (E := fun (k : Int) (m' : PM) => m' = setA (setA (setA (m) 81 (ud (ud (ud (ud (ud (ud (m 81) 44 1) 45 (m 81 22)) 46 (m 81 0)) 47 (m 81 34)) 48 (m 81 37)) 49 (m 81 38))) 111 (ivl (m 96) (m 111) 0 (k))) 123 (ivl (m 99) (m 123) 0 (k))) (a := 0) (b := 24) ?_ ?_ (0) (_) (by first | omega | (simp only [sA_same, sA_s, ud_s, Int.reduceEq, if_true, if_false, ite_true, ite_false, ↓reduceIte, and_true, true_and, eq_self, Int.add_zero, Int.reduceAdd]; omega) | (simp (disch := omega) only [sA_same, sA_ne, ud_eq, ud_ne, Int.add_zero, Int.reduceAdd]; omega)) (by first | omega | (simp only [sA_same, sA_s, ud_s, Int.reduceEq, if_true, if_false, ite_true, ite_false, ↓reduceIte, and_true, true_and, eq_self, Int.add_zero, Int.reduceAdd]; omega) | (simp (disch := omega) only [sA_same, sA_ne, ud_eq, ud_ne, Int.add_zero, Int.reduceAdd]; omega)) ?_
  · intro m' hm
    show V d 196 (47, ([some (.inr (.inr 81)), some (.inl (24))], ([], (m', (none, (dy, L)))))) Q
    subst hm
    refine v_iload_n (n := 48) xB_196 dX11_image_47 rfl rfl ?_
    refine v_bipush (n := 50) xB_196 dX11_image_48 ⟨by decide, by decide⟩ rfl ?_
    refine v_ic_ge_y (t := 83) xB_196 dX11_image_50 (by decide) rfl (by first | omega | (simp only [sA_same, sA_s, ud_s, Int.reduceEq, if_true, if_false, ite_true, ite_false, ↓reduceIte, and_true, true_and, eq_self, Int.add_zero, Int.reduceAdd]; omega) | (simp (disch := omega) only [sA_same, sA_ne, ud_eq, ud_ne, Int.add_zero, Int.reduceAdd]; omega)) ?_
    refine v_iconst (n := 84) xB_196 dX11_image_83 ⟨by decide, by decide⟩ rfl ?_
    refine v_istore_n1 (n := 85) xB_196 dX11_image_84 rfl rfl ?_
    refine lp_up (F := fun (k : Int) (m' : PM) => V d 196 (85, ([some (.inr (.inr 81)), some (.inl (k))], ([], (m', (none, (dy, L)))))) Q) (E := fun (k : Int) (m' : PM) => m' = setA (setA (setA (setA (setA (setA (setA (setA (m) 81 (ud (ud (ud (ud (ud (ud (m 81) 44 1) 45 (m 81 22)) 46 (m 81 0)) 47 (m 81 34)) 48 (m 81 37)) 49 (m 81 38))) 111 (ivl (m 96) (m 111) 0 24)) 112 (ivl (m 82) (m 112) 0 (k))) 113 (ivl (m 83) (m 113) 0 (k))) 114 (ivl (m 84) (m 114) 0 (k))) 116 (ivl (m 104) (m 116) 0 (k))) 117 (ivl (m 105) (m 117) 0 (k))) 123 (ivl (m 99) (m 123) 0 24)) (a := 0) (b := 5) ?_ ?_ (0) (_) (by first | omega | (simp only [sA_same, sA_s, ud_s, Int.reduceEq, if_true, if_false, ite_true, ite_false, ↓reduceIte, and_true, true_and, eq_self, Int.add_zero, Int.reduceAdd]; omega) | (simp (disch := omega) only [sA_same, sA_ne, ud_eq, ud_ne, Int.add_zero, Int.reduceAdd]; omega)) (by first | omega | (simp only [sA_same, sA_s, ud_s, Int.reduceEq, if_true, if_false, ite_true, ite_false, ↓reduceIte, and_true, true_and, eq_self, Int.add_zero, Int.reduceAdd]; omega) | (simp (disch := omega) only [sA_same, sA_ne, ud_eq, ud_ne, Int.add_zero, Int.reduceAdd]; omega)) ?_
    · intro m' hm
      show V d 196 (85, ([some (.inr (.inr 81)), some (.inl (5))], ([], (m', (none, (dy, L)))))) Q
      subst hm
      refine v_iload_n (n := 86) xB_196 dX11_image_85 rfl rfl ?_
      refine v_iconst (n := 87) xB_196 dX11_image_86 ⟨by decide, by decide⟩ rfl ?_
      refine v_ic_ge_y (t := 156) xB_196 dX11_image_87 (by decide) rfl (by first | omega | (simp only [sA_same, sA_s, ud_s, Int.reduceEq, if_true, if_false, ite_true, ite_false, ↓reduceIte, and_true, true_and, eq_self, Int.add_zero, Int.reduceAdd]; omega) | (simp (disch := omega) only [sA_same, sA_ne, ud_eq, ud_ne, Int.add_zero, Int.reduceAdd]; omega)) ?_
      refine v_iconst (n := 157) xB_196 dX11_image_156 ⟨by decide, by decide⟩ rfl ?_
      refine v_istore_n1 (n := 158) xB_196 dX11_image_157 rfl rfl ?_
      refine lp_up (F := fun (k : Int) (m' : PM) => V d 196 (158, ([some (.inr (.inr 81)), some (.inl (k))], ([], (m', (none, (dy, L)))))) Q) (E := fun (k : Int) (m' : PM) => m' = setA (setA (setA (setA (setA (setA (setA (setA (setA (m) 81 (ud (ud (ud (ud (ud (ud (m 81) 44 1) 45 (m 81 22)) 46 (m 81 0)) 47 (m 81 34)) 48 (m 81 37)) 49 (m 81 38))) 111 (ivl (m 96) (m 111) 0 24)) 112 (ivl (m 82) (m 112) 0 5)) 113 (ivl (m 83) (m 113) 0 5)) 114 (ivl (m 84) (m 114) 0 5)) 115 (ivl (m 85) (m 115) 0 (k))) 116 (ivl (m 104) (m 116) 0 5)) 117 (ivl (m 105) (m 117) 0 5)) 123 (ivl (m 99) (m 123) 0 24)) (a := 0) (b := 20) ?_ ?_ (0) (_) (by first | omega | (simp only [sA_same, sA_s, ud_s, Int.reduceEq, if_true, if_false, ite_true, ite_false, ↓reduceIte, and_true, true_and, eq_self, Int.add_zero, Int.reduceAdd]; omega) | (simp (disch := omega) only [sA_same, sA_ne, ud_eq, ud_ne, Int.add_zero, Int.reduceAdd]; omega)) (by first | omega | (simp only [sA_same, sA_s, ud_s, Int.reduceEq, if_true, if_false, ite_true, ite_false, ↓reduceIte, and_true, true_and, eq_self, Int.add_zero, Int.reduceAdd]; omega) | (simp (disch := omega) only [sA_same, sA_ne, ud_eq, ud_ne, Int.add_zero, Int.reduceAdd]; omega)) ?_
      · intro m' hm
        show V d 196 (158, ([some (.inr (.inr 81)), some (.inl (20))], ([], (m', (none, (dy, L)))))) Q
        subst hm
        refine v_iload_n (n := 159) xB_196 dX11_image_158 rfl rfl ?_
        refine v_bipush (n := 161) xB_196 dX11_image_159 ⟨by decide, by decide⟩ rfl ?_
        refine v_ic_ge_y (t := 182) xB_196 dX11_image_161 (by decide) rfl (by first | omega | (simp only [sA_same, sA_s, ud_s, Int.reduceEq, if_true, if_false, ite_true, ite_false, ↓reduceIte, and_true, true_and, eq_self, Int.add_zero, Int.reduceAdd]; omega) | (simp (disch := omega) only [sA_same, sA_ne, ud_eq, ud_ne, Int.add_zero, Int.reduceAdd]; omega)) ?_
        refine v_iconst (n := 183) xB_196 dX11_image_182 ⟨by decide, by decide⟩ rfl ?_
        refine v_istore_n1 (n := 184) xB_196 dX11_image_183 rfl rfl ?_
        refine lp_up (F := fun (k : Int) (m' : PM) => V d 196 (184, ([some (.inr (.inr 81)), some (.inl (k))], ([], (m', (none, (dy, L)))))) Q) (E := fun (k : Int) (m' : PM) => m' = setA (setA (setA (setA (setA (setA (setA (setA (setA (setA (setA (setA (m) 81 (ud (ud (ud (ud (ud (ud (m 81) 44 1) 45 (m 81 22)) 46 (m 81 0)) 47 (m 81 34)) 48 (m 81 37)) 49 (m 81 38))) 111 (ivl (m 96) (m 111) 0 24)) 112 (ivl (m 82) (m 112) 0 5)) 113 (ivl (m 83) (m 113) 0 5)) 114 (ivl (m 84) (m 114) 0 5)) 115 (ivl (m 85) (m 115) 0 20)) 116 (ivl (m 104) (m 116) 0 5)) 117 (ivl (m 105) (m 117) 0 5)) 118 (ivl (m 106) (m 118) 0 (k))) 119 (ivl (m 107) (m 119) 0 (k))) 120 (ivl (m 108) (m 120) 0 (k))) 123 (ivl (m 99) (m 123) 0 24)) (a := 0) (b := 6) ?_ ?_ (0) (_) (by first | omega | (simp only [sA_same, sA_s, ud_s, Int.reduceEq, if_true, if_false, ite_true, ite_false, ↓reduceIte, and_true, true_and, eq_self, Int.add_zero, Int.reduceAdd]; omega) | (simp (disch := omega) only [sA_same, sA_ne, ud_eq, ud_ne, Int.add_zero, Int.reduceAdd]; omega)) (by first | omega | (simp only [sA_same, sA_s, ud_s, Int.reduceEq, if_true, if_false, ite_true, ite_false, ↓reduceIte, and_true, true_and, eq_self, Int.add_zero, Int.reduceAdd]; omega) | (simp (disch := omega) only [sA_same, sA_ne, ud_eq, ud_ne, Int.add_zero, Int.reduceAdd]; omega)) ?_
        · intro m' hm
          show V d 196 (184, ([some (.inr (.inr 81)), some (.inl (6))], ([], (m', (none, (dy, L)))))) Q
          subst hm
          refine v_iload_n (n := 185) xB_196 dX11_image_184 rfl rfl ?_
          refine v_bipush (n := 187) xB_196 dX11_image_185 ⟨by decide, by decide⟩ rfl ?_
          refine v_ic_ge_y (t := 232) xB_196 dX11_image_187 (by decide) rfl (by first | omega | (simp only [sA_same, sA_s, ud_s, Int.reduceEq, if_true, if_false, ite_true, ite_false, ↓reduceIte, and_true, true_and, eq_self, Int.add_zero, Int.reduceAdd]; omega) | (simp (disch := omega) only [sA_same, sA_ne, ud_eq, ud_ne, Int.add_zero, Int.reduceAdd]; omega)) ?_
          refine v_iconst (n := 233) xB_196 dX11_image_232 ⟨by decide, by decide⟩ rfl ?_
          refine v_istore_n1 (n := 234) xB_196 dX11_image_233 rfl rfl ?_
          refine lp_up (F := fun (k : Int) (m' : PM) => V d 196 (234, ([some (.inr (.inr 81)), some (.inl (k))], ([], (m', (none, (dy, L)))))) Q) (E := fun (k : Int) (m' : PM) => m' = setA (setA (setA (setA (setA (setA (setA (setA (setA (setA (setA (setA (setA (setA (m) 81 (ud (ud (ud (ud (ud (ud (m 81) 44 1) 45 (m 81 22)) 46 (m 81 0)) 47 (m 81 34)) 48 (m 81 37)) 49 (m 81 38))) 111 (ivl (m 96) (m 111) 0 24)) 112 (ivl (m 82) (m 112) 0 5)) 113 (ivl (m 83) (m 113) 0 5)) 114 (ivl (m 84) (m 114) 0 5)) 115 (ivl (m 85) (m 115) 0 20)) 116 (ivl (m 104) (m 116) 0 5)) 117 (ivl (m 105) (m 117) 0 5)) 118 (ivl (m 106) (m 118) 0 6)) 119 (ivl (m 107) (m 119) 0 6)) 120 (ivl (m 108) (m 120) 0 6)) 121 (ivl (m 109) (m 121) 0 (k))) 122 (ivl (m 110) (m 122) 0 (k))) 123 (ivl (m 99) (m 123) 0 24)) (a := 0) (b := 8) ?_ ?_ (0) (_) (by first | omega | (simp only [sA_same, sA_s, ud_s, Int.reduceEq, if_true, if_false, ite_true, ite_false, ↓reduceIte, and_true, true_and, eq_self, Int.add_zero, Int.reduceAdd]; omega) | (simp (disch := omega) only [sA_same, sA_ne, ud_eq, ud_ne, Int.add_zero, Int.reduceAdd]; omega)) (by first | omega | (simp only [sA_same, sA_s, ud_s, Int.reduceEq, if_true, if_false, ite_true, ite_false, ↓reduceIte, and_true, true_and, eq_self, Int.add_zero, Int.reduceAdd]; omega) | (simp (disch := omega) only [sA_same, sA_ne, ud_eq, ud_ne, Int.add_zero, Int.reduceAdd]; omega)) ?_
          · intro m' hm
            show V d 196 (234, ([some (.inr (.inr 81)), some (.inl (8))], ([], (m', (none, (dy, L)))))) Q
            subst hm
            refine v_iload_n (n := 235) xB_196 dX11_image_234 rfl rfl ?_
            refine v_bipush (n := 237) xB_196 dX11_image_235 ⟨by decide, by decide⟩ rfl ?_
            refine v_ic_ge_y (t := 270) xB_196 dX11_image_237 (by decide) rfl (by first | omega | (simp only [sA_same, sA_s, ud_s, Int.reduceEq, if_true, if_false, ite_true, ite_false, ↓reduceIte, and_true, true_and, eq_self, Int.add_zero, Int.reduceAdd]; omega) | (simp (disch := omega) only [sA_same, sA_ne, ud_eq, ud_ne, Int.add_zero, Int.reduceAdd]; omega)) ?_
            refine v_aload_n (n := 271) xB_196 dX11_image_270 rfl rfl ?_
            refine v_gf_i (n := 274) (kz := 22) xB_196 dX11_image_271 xO_196 fl_11_78 fg_11_22 rfl (sh_81 _ _ _) rfl rfl ?_
            refine v_ireturn0 xB_196 dX11_image_274 xK_196 ?_
            (try simp (disch := omega) only [sA_same, sA_ne, sA_sA, sA_sr, sB_s, ud_eq, ud_ne, ud_ud, ud_sr, uB_s, Int.add_zero, Int.reduceAdd])
            exact o1
          · intro k m' h1 h2 hm ih
            show V d 196 (234, ([some (.inr (.inr 81)), some (.inl (k))], ([], (m', (none, (dy, L)))))) Q
            subst hm
            refine v_iload_n (n := 235) xB_196 dX11_image_234 rfl rfl ?_
            refine v_bipush (n := 237) xB_196 dX11_image_235 ⟨by decide, by decide⟩ rfl ?_
            refine v_ic_ge_n (n := 240) xB_196 dX11_image_237 (by decide) rfl (by first | omega | (simp only [sA_same, sA_s, ud_s, Int.reduceEq, if_true, if_false, ite_true, ite_false, ↓reduceIte, and_true, true_and, eq_self, Int.add_zero, Int.reduceAdd]; omega) | (simp (disch := omega) only [sA_same, sA_ne, ud_eq, ud_ne, Int.add_zero, Int.reduceAdd]; omega)) ?_
            refine v_aload_n (n := 241) xB_196 dX11_image_240 rfl rfl ?_
            refine v_gf_s (n := 244) (kz := 60) xB_196 dX11_image_241 xO_196 fl_11_193 fg_11_60 (sh_81 _ _ _) rfl st_81_60 rfl ?_
            refine v_iload_n (n := 245) xB_196 dX11_image_244 rfl rfl ?_
            refine v_aload_n (n := 246) xB_196 dX11_image_245 rfl rfl ?_
            refine v_gf_s (n := 249) (kz := 42) xB_196 dX11_image_246 xO_196 fl_11_138 fg_11_42 (sh_81 _ _ _) rfl st_81_42 rfl ?_
            refine v_iload_n (n := 250) xB_196 dX11_image_249 rfl rfl ?_
            refine v_iaload (n := 251) (lz := 8) xB_196 dX11_image_250 (sh_109 _ _ _) rfl (by first | omega | (simp only [sA_same, sA_s, ud_s, Int.reduceEq, if_true, if_false, ite_true, ite_false, ↓reduceIte, and_true, true_and, eq_self, Int.add_zero, Int.reduceAdd]; omega) | (simp (disch := omega) only [sA_same, sA_ne, ud_eq, ud_ne, Int.add_zero, Int.reduceAdd]; omega)) rfl ?_
            refine v_iastore (n := 252) (lz := 8) xB_196 dX11_image_251 (sh_121 _ _ _) (by decide) rfl (by first | omega | (simp only [sA_same, sA_s, ud_s, Int.reduceEq, if_true, if_false, ite_true, ite_false, ↓reduceIte, and_true, true_and, eq_self, Int.add_zero, Int.reduceAdd]; omega) | (simp (disch := omega) only [sA_same, sA_ne, ud_eq, ud_ne, Int.add_zero, Int.reduceAdd]; omega)) rfl ?_
            (try simp (disch := omega) only [sA_same, sA_ne, sA_sA, sA_sr, sB_s, ud_eq, ud_ne, ud_ud, ud_sr, uB_s, Int.add_zero, Int.reduceAdd])
            refine v_aload_n (n := 253) xB_196 dX11_image_252 rfl rfl ?_
            refine v_gf_s (n := 256) (kz := 61) xB_196 dX11_image_253 xO_196 fl_11_196 fg_11_61 (sh_81 _ _ _) rfl st_81_61 rfl ?_
            refine v_iload_n (n := 257) xB_196 dX11_image_256 rfl rfl ?_
            refine v_aload_n (n := 258) xB_196 dX11_image_257 rfl rfl ?_
            refine v_gf_s (n := 261) (kz := 43) xB_196 dX11_image_258 xO_196 fl_11_141 fg_11_43 (sh_81 _ _ _) rfl st_81_43 rfl ?_
            refine v_iload_n (n := 262) xB_196 dX11_image_261 rfl rfl ?_
            refine v_iaload (n := 263) (lz := 8) xB_196 dX11_image_262 (sh_110 _ _ _) rfl (by first | omega | (simp only [sA_same, sA_s, ud_s, Int.reduceEq, if_true, if_false, ite_true, ite_false, ↓reduceIte, and_true, true_and, eq_self, Int.add_zero, Int.reduceAdd]; omega) | (simp (disch := omega) only [sA_same, sA_ne, ud_eq, ud_ne, Int.add_zero, Int.reduceAdd]; omega)) rfl ?_
            refine v_iastore (n := 264) (lz := 8) xB_196 dX11_image_263 (sh_122 _ _ _) (by decide) rfl (by first | omega | (simp only [sA_same, sA_s, ud_s, Int.reduceEq, if_true, if_false, ite_true, ite_false, ↓reduceIte, and_true, true_and, eq_self, Int.add_zero, Int.reduceAdd]; omega) | (simp (disch := omega) only [sA_same, sA_ne, ud_eq, ud_ne, Int.add_zero, Int.reduceAdd]; omega)) rfl ?_
            (try simp (disch := omega) only [sA_same, sA_ne, sA_sA, sA_sr, sB_s, ud_eq, ud_ne, ud_ud, ud_sr, uB_s, Int.add_zero, Int.reduceAdd])
            refine v_iinc1 (n := 267) xB_196 dX11_image_264 rfl (by first | omega | (simp only [sA_same, sA_s, ud_s, Int.reduceEq, if_true, if_false, ite_true, ite_false, ↓reduceIte, and_true, true_and, eq_self, Int.add_zero, Int.reduceAdd]; omega) | (simp (disch := omega) only [sA_same, sA_ne, ud_eq, ud_ne, Int.add_zero, Int.reduceAdd]; omega)) rfl ?_
            refine v_goto (t := 234) xB_196 dX11_image_267 (by decide) rfl ?_
            refine ih _ ?_
            (try simp (disch := omega) only [sA_same, sA_ne, sA_sA, sA_sr, sB_s, ud_eq, ud_ne, ud_ud, ud_sr, uB_s, Int.add_zero, Int.reduceAdd])
            exact ch_image_234 rfl rfl rfl rfl rfl rfl rfl rfl rfl rfl rfl (by funext j'; simp only [ud_s, ivl]; (repeat' split) <;> first | rfl | omega | (exfalso; omega) | (congr 1; omega)) (by funext j'; simp only [ud_s, ivl]; (repeat' split) <;> first | rfl | omega | (exfalso; omega) | (congr 1; omega)) rfl
          · rw [ivl_0 (lo := 0) (hi := 0) (by omega), ivl_0 (lo := 0) (hi := 0) (by omega)]
            rw [sA_x (a := 121) (by simp (disch := omega) only [sA_ne]), sA_x (a := 122) (by simp (disch := omega) only [sA_ne])]
        · intro k m' h1 h2 hm ih
          show V d 196 (184, ([some (.inr (.inr 81)), some (.inl (k))], ([], (m', (none, (dy, L)))))) Q
          subst hm
          refine v_iload_n (n := 185) xB_196 dX11_image_184 rfl rfl ?_
          refine v_bipush (n := 187) xB_196 dX11_image_185 ⟨by decide, by decide⟩ rfl ?_
          refine v_ic_ge_n (n := 190) xB_196 dX11_image_187 (by decide) rfl (by first | omega | (simp only [sA_same, sA_s, ud_s, Int.reduceEq, if_true, if_false, ite_true, ite_false, ↓reduceIte, and_true, true_and, eq_self, Int.add_zero, Int.reduceAdd]; omega) | (simp (disch := omega) only [sA_same, sA_ne, ud_eq, ud_ne, Int.add_zero, Int.reduceAdd]; omega)) ?_
          refine v_aload_n (n := 191) xB_196 dX11_image_190 rfl rfl ?_
          refine v_gf_s (n := 194) (kz := 57) xB_196 dX11_image_191 xO_196 fl_11_184 fg_11_57 (sh_81 _ _ _) rfl st_81_57 rfl ?_
          refine v_iload_n (n := 195) xB_196 dX11_image_194 rfl rfl ?_
          refine v_aload_n (n := 196) xB_196 dX11_image_195 rfl rfl ?_
          refine v_gf_s (n := 199) (kz := 39) xB_196 dX11_image_196 xO_196 fl_11_129 fg_11_39 (sh_81 _ _ _) rfl st_81_39 rfl ?_
          refine v_iload_n (n := 200) xB_196 dX11_image_199 rfl rfl ?_
          refine v_iaload (n := 201) (lz := 6) xB_196 dX11_image_200 (sh_106 _ _ _) rfl (by first | omega | (simp only [sA_same, sA_s, ud_s, Int.reduceEq, if_true, if_false, ite_true, ite_false, ↓reduceIte, and_true, true_and, eq_self, Int.add_zero, Int.reduceAdd]; omega) | (simp (disch := omega) only [sA_same, sA_ne, ud_eq, ud_ne, Int.add_zero, Int.reduceAdd]; omega)) rfl ?_
          refine v_iastore (n := 202) (lz := 6) xB_196 dX11_image_201 (sh_118 _ _ _) (by decide) rfl (by first | omega | (simp only [sA_same, sA_s, ud_s, Int.reduceEq, if_true, if_false, ite_true, ite_false, ↓reduceIte, and_true, true_and, eq_self, Int.add_zero, Int.reduceAdd]; omega) | (simp (disch := omega) only [sA_same, sA_ne, ud_eq, ud_ne, Int.add_zero, Int.reduceAdd]; omega)) rfl ?_
          (try simp (disch := omega) only [sA_same, sA_ne, sA_sA, sA_sr, sB_s, ud_eq, ud_ne, ud_ud, ud_sr, uB_s, Int.add_zero, Int.reduceAdd])
          refine v_aload_n (n := 203) xB_196 dX11_image_202 rfl rfl ?_
          refine v_gf_s (n := 206) (kz := 58) xB_196 dX11_image_203 xO_196 fl_11_187 fg_11_58 (sh_81 _ _ _) rfl st_81_58 rfl ?_
          refine v_iload_n (n := 207) xB_196 dX11_image_206 rfl rfl ?_
          refine v_aload_n (n := 208) xB_196 dX11_image_207 rfl rfl ?_
          refine v_gf_s (n := 211) (kz := 40) xB_196 dX11_image_208 xO_196 fl_11_132 fg_11_40 (sh_81 _ _ _) rfl st_81_40 rfl ?_
          refine v_iload_n (n := 212) xB_196 dX11_image_211 rfl rfl ?_
          refine v_iaload (n := 213) (lz := 6) xB_196 dX11_image_212 (sh_107 _ _ _) rfl (by first | omega | (simp only [sA_same, sA_s, ud_s, Int.reduceEq, if_true, if_false, ite_true, ite_false, ↓reduceIte, and_true, true_and, eq_self, Int.add_zero, Int.reduceAdd]; omega) | (simp (disch := omega) only [sA_same, sA_ne, ud_eq, ud_ne, Int.add_zero, Int.reduceAdd]; omega)) rfl ?_
          refine v_iastore (n := 214) (lz := 6) xB_196 dX11_image_213 (sh_119 _ _ _) (by decide) rfl (by first | omega | (simp only [sA_same, sA_s, ud_s, Int.reduceEq, if_true, if_false, ite_true, ite_false, ↓reduceIte, and_true, true_and, eq_self, Int.add_zero, Int.reduceAdd]; omega) | (simp (disch := omega) only [sA_same, sA_ne, ud_eq, ud_ne, Int.add_zero, Int.reduceAdd]; omega)) rfl ?_
          (try simp (disch := omega) only [sA_same, sA_ne, sA_sA, sA_sr, sB_s, ud_eq, ud_ne, ud_ud, ud_sr, uB_s, Int.add_zero, Int.reduceAdd])
          refine v_aload_n (n := 215) xB_196 dX11_image_214 rfl rfl ?_
          refine v_gf_s (n := 218) (kz := 59) xB_196 dX11_image_215 xO_196 fl_11_190 fg_11_59 (sh_81 _ _ _) rfl st_81_59 rfl ?_
          refine v_iload_n (n := 219) xB_196 dX11_image_218 rfl rfl ?_
          refine v_aload_n (n := 220) xB_196 dX11_image_219 rfl rfl ?_
          refine v_gf_s (n := 223) (kz := 41) xB_196 dX11_image_220 xO_196 fl_11_135 fg_11_41 (sh_81 _ _ _) rfl st_81_41 rfl ?_
          refine v_iload_n (n := 224) xB_196 dX11_image_223 rfl rfl ?_
          refine v_iaload (n := 225) (lz := 6) xB_196 dX11_image_224 (sh_108 _ _ _) rfl (by first | omega | (simp only [sA_same, sA_s, ud_s, Int.reduceEq, if_true, if_false, ite_true, ite_false, ↓reduceIte, and_true, true_and, eq_self, Int.add_zero, Int.reduceAdd]; omega) | (simp (disch := omega) only [sA_same, sA_ne, ud_eq, ud_ne, Int.add_zero, Int.reduceAdd]; omega)) rfl ?_
          refine v_iastore (n := 226) (lz := 6) xB_196 dX11_image_225 (sh_120 _ _ _) (by decide) rfl (by first | omega | (simp only [sA_same, sA_s, ud_s, Int.reduceEq, if_true, if_false, ite_true, ite_false, ↓reduceIte, and_true, true_and, eq_self, Int.add_zero, Int.reduceAdd]; omega) | (simp (disch := omega) only [sA_same, sA_ne, ud_eq, ud_ne, Int.add_zero, Int.reduceAdd]; omega)) rfl ?_
          (try simp (disch := omega) only [sA_same, sA_ne, sA_sA, sA_sr, sB_s, ud_eq, ud_ne, ud_ud, ud_sr, uB_s, Int.add_zero, Int.reduceAdd])
          refine v_iinc1 (n := 229) xB_196 dX11_image_226 rfl (by first | omega | (simp only [sA_same, sA_s, ud_s, Int.reduceEq, if_true, if_false, ite_true, ite_false, ↓reduceIte, and_true, true_and, eq_self, Int.add_zero, Int.reduceAdd]; omega) | (simp (disch := omega) only [sA_same, sA_ne, ud_eq, ud_ne, Int.add_zero, Int.reduceAdd]; omega)) rfl ?_
          refine v_goto (t := 184) xB_196 dX11_image_229 (by decide) rfl ?_
          refine ih _ ?_
          (try simp (disch := omega) only [sA_same, sA_ne, sA_sA, sA_sr, sB_s, ud_eq, ud_ne, ud_ud, ud_sr, uB_s, Int.add_zero, Int.reduceAdd])
          exact ch_image_184 rfl rfl rfl rfl rfl rfl rfl rfl (by funext j'; simp only [ud_s, ivl]; (repeat' split) <;> first | rfl | omega | (exfalso; omega) | (congr 1; omega)) (by funext j'; simp only [ud_s, ivl]; (repeat' split) <;> first | rfl | omega | (exfalso; omega) | (congr 1; omega)) (by funext j'; simp only [ud_s, ivl]; (repeat' split) <;> first | rfl | omega | (exfalso; omega) | (congr 1; omega)) rfl
        · rw [ivl_0 (lo := 0) (hi := 0) (by omega), ivl_0 (lo := 0) (hi := 0) (by omega), ivl_0 (lo := 0) (hi := 0) (by omega)]
          rw [sA_x (a := 118) (by simp (disch := omega) only [sA_ne]), sA_x (a := 119) (by simp (disch := omega) only [sA_ne]), sA_x (a := 120) (by simp (disch := omega) only [sA_ne])]
      · intro k m' h1 h2 hm ih
        show V d 196 (158, ([some (.inr (.inr 81)), some (.inl (k))], ([], (m', (none, (dy, L)))))) Q
        subst hm
        refine v_iload_n (n := 159) xB_196 dX11_image_158 rfl rfl ?_
        refine v_bipush (n := 161) xB_196 dX11_image_159 ⟨by decide, by decide⟩ rfl ?_
        refine v_ic_ge_n (n := 164) xB_196 dX11_image_161 (by decide) rfl (by first | omega | (simp only [sA_same, sA_s, ud_s, Int.reduceEq, if_true, if_false, ite_true, ite_false, ↓reduceIte, and_true, true_and, eq_self, Int.add_zero, Int.reduceAdd]; omega) | (simp (disch := omega) only [sA_same, sA_ne, ud_eq, ud_ne, Int.add_zero, Int.reduceAdd]; omega)) ?_
        refine v_aload_n (n := 165) xB_196 dX11_image_164 rfl rfl ?_
        refine v_gf_s (n := 168) (kz := 54) xB_196 dX11_image_165 xO_196 fl_11_175 fg_11_54 (sh_81 _ _ _) rfl st_81_54 rfl ?_
        refine v_iload_n (n := 169) xB_196 dX11_image_168 rfl rfl ?_
        refine v_aload_n (n := 170) xB_196 dX11_image_169 rfl rfl ?_
        refine v_gf_s (n := 173) (kz := 4) xB_196 dX11_image_170 xO_196 fl_11_23 fg_11_4 (sh_81 _ _ _) rfl st_81_4 rfl ?_
        refine v_iload_n (n := 174) xB_196 dX11_image_173 rfl rfl ?_
        refine v_iaload (n := 175) (lz := 20) xB_196 dX11_image_174 (sh_85 _ _ _) rfl (by first | omega | (simp only [sA_same, sA_s, ud_s, Int.reduceEq, if_true, if_false, ite_true, ite_false, ↓reduceIte, and_true, true_and, eq_self, Int.add_zero, Int.reduceAdd]; omega) | (simp (disch := omega) only [sA_same, sA_ne, ud_eq, ud_ne, Int.add_zero, Int.reduceAdd]; omega)) rfl ?_
        refine v_iastore (n := 176) (lz := 20) xB_196 dX11_image_175 (sh_115 _ _ _) (by decide) rfl (by first | omega | (simp only [sA_same, sA_s, ud_s, Int.reduceEq, if_true, if_false, ite_true, ite_false, ↓reduceIte, and_true, true_and, eq_self, Int.add_zero, Int.reduceAdd]; omega) | (simp (disch := omega) only [sA_same, sA_ne, ud_eq, ud_ne, Int.add_zero, Int.reduceAdd]; omega)) rfl ?_
        (try simp (disch := omega) only [sA_same, sA_ne, sA_sA, sA_sr, sB_s, ud_eq, ud_ne, ud_ud, ud_sr, uB_s, Int.add_zero, Int.reduceAdd])
        refine v_iinc1 (n := 179) xB_196 dX11_image_176 rfl (by first | omega | (simp only [sA_same, sA_s, ud_s, Int.reduceEq, if_true, if_false, ite_true, ite_false, ↓reduceIte, and_true, true_and, eq_self, Int.add_zero, Int.reduceAdd]; omega) | (simp (disch := omega) only [sA_same, sA_ne, ud_eq, ud_ne, Int.add_zero, Int.reduceAdd]; omega)) rfl ?_
        refine v_goto (t := 158) xB_196 dX11_image_179 (by decide) rfl ?_
        refine ih _ ?_
        (try simp (disch := omega) only [sA_same, sA_ne, sA_sA, sA_sr, sB_s, ud_eq, ud_ne, ud_ud, ud_sr, uB_s, Int.add_zero, Int.reduceAdd])
        exact ch_image_158 rfl rfl rfl rfl rfl (by funext j'; simp only [ud_s, ivl]; (repeat' split) <;> first | rfl | omega | (exfalso; omega) | (congr 1; omega)) rfl rfl rfl
      · rw [ivl_0 (lo := 0) (hi := 0) (by omega)]
        rw [sA_x (a := 115) (by simp (disch := omega) only [sA_ne])]
    · intro k m' h1 h2 hm ih
      show V d 196 (85, ([some (.inr (.inr 81)), some (.inl (k))], ([], (m', (none, (dy, L)))))) Q
      subst hm
      refine v_iload_n (n := 86) xB_196 dX11_image_85 rfl rfl ?_
      refine v_iconst (n := 87) xB_196 dX11_image_86 ⟨by decide, by decide⟩ rfl ?_
      refine v_ic_ge_n (n := 90) xB_196 dX11_image_87 (by decide) rfl (by first | omega | (simp only [sA_same, sA_s, ud_s, Int.reduceEq, if_true, if_false, ite_true, ite_false, ↓reduceIte, and_true, true_and, eq_self, Int.add_zero, Int.reduceAdd]; omega) | (simp (disch := omega) only [sA_same, sA_ne, ud_eq, ud_ne, Int.add_zero, Int.reduceAdd]; omega)) ?_
      refine v_aload_n (n := 91) xB_196 dX11_image_90 rfl rfl ?_
      refine v_gf_s (n := 94) (kz := 51) xB_196 dX11_image_91 xO_196 fl_11_166 fg_11_51 (sh_81 _ _ _) rfl st_81_51 rfl ?_
      refine v_iload_n (n := 95) xB_196 dX11_image_94 rfl rfl ?_
      refine v_aload_n (n := 96) xB_196 dX11_image_95 rfl rfl ?_
      refine v_gf_s (n := 99) (kz := 1) xB_196 dX11_image_96 xO_196 fl_11_13 fg_11_1 (sh_81 _ _ _) rfl st_81_1 rfl ?_
      refine v_iload_n (n := 100) xB_196 dX11_image_99 rfl rfl ?_
      refine v_iaload (n := 101) (lz := 5) xB_196 dX11_image_100 (sh_82 _ _ _) rfl (by first | omega | (simp only [sA_same, sA_s, ud_s, Int.reduceEq, if_true, if_false, ite_true, ite_false, ↓reduceIte, and_true, true_and, eq_self, Int.add_zero, Int.reduceAdd]; omega) | (simp (disch := omega) only [sA_same, sA_ne, ud_eq, ud_ne, Int.add_zero, Int.reduceAdd]; omega)) rfl ?_
      refine v_iastore (n := 102) (lz := 5) xB_196 dX11_image_101 (sh_112 _ _ _) (by decide) rfl (by first | omega | (simp only [sA_same, sA_s, ud_s, Int.reduceEq, if_true, if_false, ite_true, ite_false, ↓reduceIte, and_true, true_and, eq_self, Int.add_zero, Int.reduceAdd]; omega) | (simp (disch := omega) only [sA_same, sA_ne, ud_eq, ud_ne, Int.add_zero, Int.reduceAdd]; omega)) rfl ?_
      (try simp (disch := omega) only [sA_same, sA_ne, sA_sA, sA_sr, sB_s, ud_eq, ud_ne, ud_ud, ud_sr, uB_s, Int.add_zero, Int.reduceAdd])
      refine v_aload_n (n := 103) xB_196 dX11_image_102 rfl rfl ?_
      refine v_gf_s (n := 106) (kz := 52) xB_196 dX11_image_103 xO_196 fl_11_169 fg_11_52 (sh_81 _ _ _) rfl st_81_52 rfl ?_
      refine v_iload_n (n := 107) xB_196 dX11_image_106 rfl rfl ?_
      refine v_aload_n (n := 108) xB_196 dX11_image_107 rfl rfl ?_
      refine v_gf_s (n := 111) (kz := 2) xB_196 dX11_image_108 xO_196 fl_11_17 fg_11_2 (sh_81 _ _ _) rfl st_81_2 rfl ?_
      refine v_iload_n (n := 112) xB_196 dX11_image_111 rfl rfl ?_
      refine v_iaload (n := 113) (lz := 5) xB_196 dX11_image_112 (sh_83 _ _ _) rfl (by first | omega | (simp only [sA_same, sA_s, ud_s, Int.reduceEq, if_true, if_false, ite_true, ite_false, ↓reduceIte, and_true, true_and, eq_self, Int.add_zero, Int.reduceAdd]; omega) | (simp (disch := omega) only [sA_same, sA_ne, ud_eq, ud_ne, Int.add_zero, Int.reduceAdd]; omega)) rfl ?_
      refine v_iastore (n := 114) (lz := 5) xB_196 dX11_image_113 (sh_113 _ _ _) (by decide) rfl (by first | omega | (simp only [sA_same, sA_s, ud_s, Int.reduceEq, if_true, if_false, ite_true, ite_false, ↓reduceIte, and_true, true_and, eq_self, Int.add_zero, Int.reduceAdd]; omega) | (simp (disch := omega) only [sA_same, sA_ne, ud_eq, ud_ne, Int.add_zero, Int.reduceAdd]; omega)) rfl ?_
      (try simp (disch := omega) only [sA_same, sA_ne, sA_sA, sA_sr, sB_s, ud_eq, ud_ne, ud_ud, ud_sr, uB_s, Int.add_zero, Int.reduceAdd])
      refine v_aload_n (n := 115) xB_196 dX11_image_114 rfl rfl ?_
      refine v_gf_s (n := 118) (kz := 53) xB_196 dX11_image_115 xO_196 fl_11_172 fg_11_53 (sh_81 _ _ _) rfl st_81_53 rfl ?_
      refine v_iload_n (n := 119) xB_196 dX11_image_118 rfl rfl ?_
      refine v_aload_n (n := 120) xB_196 dX11_image_119 rfl rfl ?_
      refine v_gf_s (n := 123) (kz := 3) xB_196 dX11_image_120 xO_196 fl_11_20 fg_11_3 (sh_81 _ _ _) rfl st_81_3 rfl ?_
      refine v_iload_n (n := 124) xB_196 dX11_image_123 rfl rfl ?_
      refine v_iaload (n := 125) (lz := 5) xB_196 dX11_image_124 (sh_84 _ _ _) rfl (by first | omega | (simp only [sA_same, sA_s, ud_s, Int.reduceEq, if_true, if_false, ite_true, ite_false, ↓reduceIte, and_true, true_and, eq_self, Int.add_zero, Int.reduceAdd]; omega) | (simp (disch := omega) only [sA_same, sA_ne, ud_eq, ud_ne, Int.add_zero, Int.reduceAdd]; omega)) rfl ?_
      refine v_iastore (n := 126) (lz := 5) xB_196 dX11_image_125 (sh_114 _ _ _) (by decide) rfl (by first | omega | (simp only [sA_same, sA_s, ud_s, Int.reduceEq, if_true, if_false, ite_true, ite_false, ↓reduceIte, and_true, true_and, eq_self, Int.add_zero, Int.reduceAdd]; omega) | (simp (disch := omega) only [sA_same, sA_ne, ud_eq, ud_ne, Int.add_zero, Int.reduceAdd]; omega)) rfl ?_
      (try simp (disch := omega) only [sA_same, sA_ne, sA_sA, sA_sr, sB_s, ud_eq, ud_ne, ud_ud, ud_sr, uB_s, Int.add_zero, Int.reduceAdd])
      refine v_aload_n (n := 127) xB_196 dX11_image_126 rfl rfl ?_
      refine v_gf_s (n := 130) (kz := 55) xB_196 dX11_image_127 xO_196 fl_11_178 fg_11_55 (sh_81 _ _ _) rfl st_81_55 rfl ?_
      refine v_iload_n (n := 131) xB_196 dX11_image_130 rfl rfl ?_
      refine v_aload_n (n := 132) xB_196 dX11_image_131 rfl rfl ?_
      refine v_gf_s (n := 135) (kz := 35) xB_196 dX11_image_132 xO_196 fl_11_117 fg_11_35 (sh_81 _ _ _) rfl st_81_35 rfl ?_
      refine v_iload_n (n := 136) xB_196 dX11_image_135 rfl rfl ?_
      refine v_iaload (n := 137) (lz := 5) xB_196 dX11_image_136 (sh_104 _ _ _) rfl (by first | omega | (simp only [sA_same, sA_s, ud_s, Int.reduceEq, if_true, if_false, ite_true, ite_false, ↓reduceIte, and_true, true_and, eq_self, Int.add_zero, Int.reduceAdd]; omega) | (simp (disch := omega) only [sA_same, sA_ne, ud_eq, ud_ne, Int.add_zero, Int.reduceAdd]; omega)) rfl ?_
      refine v_iastore (n := 138) (lz := 5) xB_196 dX11_image_137 (sh_116 _ _ _) (by decide) rfl (by first | omega | (simp only [sA_same, sA_s, ud_s, Int.reduceEq, if_true, if_false, ite_true, ite_false, ↓reduceIte, and_true, true_and, eq_self, Int.add_zero, Int.reduceAdd]; omega) | (simp (disch := omega) only [sA_same, sA_ne, ud_eq, ud_ne, Int.add_zero, Int.reduceAdd]; omega)) rfl ?_
      (try simp (disch := omega) only [sA_same, sA_ne, sA_sA, sA_sr, sB_s, ud_eq, ud_ne, ud_ud, ud_sr, uB_s, Int.add_zero, Int.reduceAdd])
      refine v_aload_n (n := 139) xB_196 dX11_image_138 rfl rfl ?_
      refine v_gf_s (n := 142) (kz := 56) xB_196 dX11_image_139 xO_196 fl_11_181 fg_11_56 (sh_81 _ _ _) rfl st_81_56 rfl ?_
      refine v_iload_n (n := 143) xB_196 dX11_image_142 rfl rfl ?_
      refine v_aload_n (n := 144) xB_196 dX11_image_143 rfl rfl ?_
      refine v_gf_s (n := 147) (kz := 36) xB_196 dX11_image_144 xO_196 fl_11_120 fg_11_36 (sh_81 _ _ _) rfl st_81_36 rfl ?_
      refine v_iload_n (n := 148) xB_196 dX11_image_147 rfl rfl ?_
      refine v_iaload (n := 149) (lz := 5) xB_196 dX11_image_148 (sh_105 _ _ _) rfl (by first | omega | (simp only [sA_same, sA_s, ud_s, Int.reduceEq, if_true, if_false, ite_true, ite_false, ↓reduceIte, and_true, true_and, eq_self, Int.add_zero, Int.reduceAdd]; omega) | (simp (disch := omega) only [sA_same, sA_ne, ud_eq, ud_ne, Int.add_zero, Int.reduceAdd]; omega)) rfl ?_
      refine v_iastore (n := 150) (lz := 5) xB_196 dX11_image_149 (sh_117 _ _ _) (by decide) rfl (by first | omega | (simp only [sA_same, sA_s, ud_s, Int.reduceEq, if_true, if_false, ite_true, ite_false, ↓reduceIte, and_true, true_and, eq_self, Int.add_zero, Int.reduceAdd]; omega) | (simp (disch := omega) only [sA_same, sA_ne, ud_eq, ud_ne, Int.add_zero, Int.reduceAdd]; omega)) rfl ?_
      (try simp (disch := omega) only [sA_same, sA_ne, sA_sA, sA_sr, sB_s, ud_eq, ud_ne, ud_ud, ud_sr, uB_s, Int.add_zero, Int.reduceAdd])
      refine v_iinc1 (n := 153) xB_196 dX11_image_150 rfl (by first | omega | (simp only [sA_same, sA_s, ud_s, Int.reduceEq, if_true, if_false, ite_true, ite_false, ↓reduceIte, and_true, true_and, eq_self, Int.add_zero, Int.reduceAdd]; omega) | (simp (disch := omega) only [sA_same, sA_ne, ud_eq, ud_ne, Int.add_zero, Int.reduceAdd]; omega)) rfl ?_
      refine v_goto (t := 85) xB_196 dX11_image_153 (by decide) rfl ?_
      refine ih _ ?_
      (try simp (disch := omega) only [sA_same, sA_ne, sA_sA, sA_sr, sB_s, ud_eq, ud_ne, ud_ud, ud_sr, uB_s, Int.add_zero, Int.reduceAdd])
      exact ch_image_85 rfl rfl (by funext j'; simp only [ud_s, ivl]; (repeat' split) <;> first | rfl | omega | (exfalso; omega) | (congr 1; omega)) (by funext j'; simp only [ud_s, ivl]; (repeat' split) <;> first | rfl | omega | (exfalso; omega) | (congr 1; omega)) (by funext j'; simp only [ud_s, ivl]; (repeat' split) <;> first | rfl | omega | (exfalso; omega) | (congr 1; omega)) (by funext j'; simp only [ud_s, ivl]; (repeat' split) <;> first | rfl | omega | (exfalso; omega) | (congr 1; omega)) (by funext j'; simp only [ud_s, ivl]; (repeat' split) <;> first | rfl | omega | (exfalso; omega) | (congr 1; omega)) rfl
    · rw [ivl_0 (lo := 0) (hi := 0) (by omega), ivl_0 (lo := 0) (hi := 0) (by omega), ivl_0 (lo := 0) (hi := 0) (by omega), ivl_0 (lo := 0) (hi := 0) (by omega), ivl_0 (lo := 0) (hi := 0) (by omega)]
      rw [sA_x (a := 112) (by simp (disch := omega) only [sA_ne]), sA_x (a := 113) (by simp (disch := omega) only [sA_ne]), sA_x (a := 114) (by simp (disch := omega) only [sA_ne]), sA_x (a := 116) (by simp (disch := omega) only [sA_ne]), sA_x (a := 117) (by simp (disch := omega) only [sA_ne])]
  · intro k m' h1 h2 hm ih
    show V d 196 (47, ([some (.inr (.inr 81)), some (.inl (k))], ([], (m', (none, (dy, L)))))) Q
    subst hm
    have q1 := hb k h1 h2
    refine v_iload_n (n := 48) xB_196 dX11_image_47 rfl rfl ?_
    refine v_bipush (n := 50) xB_196 dX11_image_48 ⟨by decide, by decide⟩ rfl ?_
    refine v_ic_ge_n (n := 53) xB_196 dX11_image_50 (by decide) rfl (by first | omega | (simp only [sA_same, sA_s, ud_s, Int.reduceEq, if_true, if_false, ite_true, ite_false, ↓reduceIte, and_true, true_and, eq_self, Int.add_zero, Int.reduceAdd]; omega) | (simp (disch := omega) only [sA_same, sA_ne, ud_eq, ud_ne, Int.add_zero, Int.reduceAdd]; omega)) ?_
    refine v_aload_n (n := 54) xB_196 dX11_image_53 rfl rfl ?_
    refine v_gf_s (n := 57) (kz := 50) xB_196 dX11_image_54 xO_196 fl_11_163 fg_11_50 (sh_81 _ _ _) rfl st_81_50 rfl ?_
    refine v_iload_n (n := 58) xB_196 dX11_image_57 rfl rfl ?_
    refine v_aload_n (n := 59) xB_196 dX11_image_58 rfl rfl ?_
    refine v_gf_s (n := 62) (kz := 23) xB_196 dX11_image_59 xO_196 fl_11_81 fg_11_23 (sh_81 _ _ _) rfl st_81_23 rfl ?_
    refine v_iload_n (n := 63) xB_196 dX11_image_62 rfl rfl ?_
    refine v_iaload (n := 64) (lz := 24) xB_196 dX11_image_63 (sh_96 _ _ _) rfl (by first | omega | (simp only [sA_same, sA_s, ud_s, Int.reduceEq, if_true, if_false, ite_true, ite_false, ↓reduceIte, and_true, true_and, eq_self, Int.add_zero, Int.reduceAdd]; omega) | (simp (disch := omega) only [sA_same, sA_ne, ud_eq, ud_ne, Int.add_zero, Int.reduceAdd]; omega)) rfl ?_
    refine v_iastore (n := 65) (lz := 24) xB_196 dX11_image_64 (sh_111 _ _ _) (by decide) rfl (by first | omega | (simp only [sA_same, sA_s, ud_s, Int.reduceEq, if_true, if_false, ite_true, ite_false, ↓reduceIte, and_true, true_and, eq_self, Int.add_zero, Int.reduceAdd]; omega) | (simp (disch := omega) only [sA_same, sA_ne, ud_eq, ud_ne, Int.add_zero, Int.reduceAdd]; omega)) rfl ?_
    (try simp (disch := omega) only [sA_same, sA_ne, sA_sA, sA_sr, sB_s, ud_eq, ud_ne, ud_ud, ud_sr, uB_s, Int.add_zero, Int.reduceAdd])
    refine v_aload_n (n := 66) xB_196 dX11_image_65 rfl rfl ?_
    refine v_gf_s (n := 69) (kz := 62) xB_196 dX11_image_66 xO_196 fl_11_199 fg_11_62 (sh_81 _ _ _) rfl st_81_62 rfl ?_
    refine v_iload_n (n := 70) xB_196 dX11_image_69 rfl rfl ?_
    refine v_aload_n (n := 71) xB_196 dX11_image_70 rfl rfl ?_
    refine v_gf_s (n := 74) (kz := 26) xB_196 dX11_image_71 xO_196 fl_11_90 fg_11_26 (sh_81 _ _ _) rfl st_81_26 rfl ?_
    refine v_iload_n (n := 75) xB_196 dX11_image_74 rfl rfl ?_
    refine v_baload (n := 76) (lz := 24) xB_196 dX11_image_75 (sh_99 _ _ _) rfl (by first | omega | (simp only [sA_same, sA_s, ud_s, Int.reduceEq, if_true, if_false, ite_true, ite_false, ↓reduceIte, and_true, true_and, eq_self, Int.add_zero, Int.reduceAdd]; omega) | (simp (disch := omega) only [sA_same, sA_ne, ud_eq, ud_ne, Int.add_zero, Int.reduceAdd]; omega)) rfl ?_
    refine v_bastore01 (n := 77) (lz := 24) xB_196 dX11_image_76 (sh_123 _ _ _) (by decide) rfl (by first | omega | (simp only [sA_same, sA_s, ud_s, Int.reduceEq, if_true, if_false, ite_true, ite_false, ↓reduceIte, and_true, true_and, eq_self, Int.add_zero, Int.reduceAdd]; omega) | (simp (disch := omega) only [sA_same, sA_ne, ud_eq, ud_ne, Int.add_zero, Int.reduceAdd]; omega)) (by first | omega | (simp only [sA_same, sA_s, ud_s, Int.reduceEq, if_true, if_false, ite_true, ite_false, ↓reduceIte, and_true, true_and, eq_self, Int.add_zero, Int.reduceAdd]; omega) | (simp (disch := omega) only [sA_same, sA_ne, ud_eq, ud_ne, Int.add_zero, Int.reduceAdd]; omega)) rfl ?_
    (try simp (disch := omega) only [sA_same, sA_ne, sA_sA, sA_sr, sB_s, ud_eq, ud_ne, ud_ud, ud_sr, uB_s, Int.add_zero, Int.reduceAdd])
    refine v_iinc1 (n := 80) xB_196 dX11_image_77 rfl (by first | omega | (simp only [sA_same, sA_s, ud_s, Int.reduceEq, if_true, if_false, ite_true, ite_false, ↓reduceIte, and_true, true_and, eq_self, Int.add_zero, Int.reduceAdd]; omega) | (simp (disch := omega) only [sA_same, sA_ne, ud_eq, ud_ne, Int.add_zero, Int.reduceAdd]; omega)) rfl ?_
    refine v_goto (t := 47) xB_196 dX11_image_80 (by decide) rfl ?_
    refine ih _ ?_
    (try simp (disch := omega) only [sA_same, sA_ne, sA_sA, sA_sr, sB_s, ud_eq, ud_ne, ud_ud, ud_sr, uB_s, Int.add_zero, Int.reduceAdd])
    exact ch_image_47 rfl (by funext j'; simp only [ud_s, ivl]; (repeat' split) <;> first | rfl | omega | (exfalso; omega) | (congr 1; omega)) (by funext j'; simp only [ud_s, ivl]; (repeat' split) <;> first | rfl | omega | (exfalso; omega) | (congr 1; omega))
  · rw [ivl_0 (lo := 0) (hi := 0) (by omega), ivl_0 (lo := 0) (hi := 0) (by omega)]
    rw [sA_x (a := 111) (by simp (disch := omega) only [sA_ne]), sA_x (a := 123) (by simp (disch := omega) only [sA_ne])]
theorem ch_undo_239 {m : PM} {f81 g81 f82 g82 f83 g83 f84 g84 f85 g85 f96 g96 f99 g99 f104 g104 f105 g105 f106 g106 f107 g107 f108 g108 f109 g109 f110 g110 : Int → Int} (e81 : f81 = g81) (e82 : f82 = g82) (e83 : f83 = g83) (e84 : f84 = g84) (e85 : f85 = g85) (e96 : f96 = g96) (e99 : f99 = g99) (e104 : f104 = g104) (e105 : f105 = g105) (e106 : f106 = g106) (e107 : f107 = g107) (e108 : f108 = g108) (e109 : f109 = g109) (e110 : f110 = g110) : setA (setA (setA (setA (setA (setA (setA (setA (setA (setA (setA (setA (setA (setA (m) 81 (f81)) 82 (f82)) 83 (f83)) 84 (f84)) 85 (f85)) 96 (f96)) 99 (f99)) 104 (f104)) 105 (f105)) 106 (f106)) 107 (f107)) 108 (f108)) 109 (f109)) 110 (f110) = setA (setA (setA (setA (setA (setA (setA (setA (setA (setA (setA (setA (setA (setA (m) 81 (g81)) 82 (g82)) 83 (g83)) 84 (g84)) 85 (g85)) 96 (g96)) 99 (g99)) 104 (g104)) 105 (g105)) 106 (g106)) 107 (g107)) 108 (g108)) 109 (g109)) 110 (g110) := by rw [e81, e82, e83, e84, e85, e96, e99, e104, e105, e106, e107, e108, e109, e110]
theorem ch_undo_189 {m : PM} {f81 g81 f82 g82 f83 g83 f84 g84 f85 g85 f96 g96 f99 g99 f104 g104 f105 g105 f106 g106 f107 g107 f108 g108 : Int → Int} (e81 : f81 = g81) (e82 : f82 = g82) (e83 : f83 = g83) (e84 : f84 = g84) (e85 : f85 = g85) (e96 : f96 = g96) (e99 : f99 = g99) (e104 : f104 = g104) (e105 : f105 = g105) (e106 : f106 = g106) (e107 : f107 = g107) (e108 : f108 = g108) : setA (setA (setA (setA (setA (setA (setA (setA (setA (setA (setA (setA (m) 81 (f81)) 82 (f82)) 83 (f83)) 84 (f84)) 85 (f85)) 96 (f96)) 99 (f99)) 104 (f104)) 105 (f105)) 106 (f106)) 107 (f107)) 108 (f108) = setA (setA (setA (setA (setA (setA (setA (setA (setA (setA (setA (setA (m) 81 (g81)) 82 (g82)) 83 (g83)) 84 (g84)) 85 (g85)) 96 (g96)) 99 (g99)) 104 (g104)) 105 (g105)) 106 (g106)) 107 (g107)) 108 (g108) := by rw [e81, e82, e83, e84, e85, e96, e99, e104, e105, e106, e107, e108]
theorem ch_undo_163 {m : PM} {f81 g81 f82 g82 f83 g83 f84 g84 f85 g85 f96 g96 f99 g99 f104 g104 f105 g105 : Int → Int} (e81 : f81 = g81) (e82 : f82 = g82) (e83 : f83 = g83) (e84 : f84 = g84) (e85 : f85 = g85) (e96 : f96 = g96) (e99 : f99 = g99) (e104 : f104 = g104) (e105 : f105 = g105) : setA (setA (setA (setA (setA (setA (setA (setA (setA (m) 81 (f81)) 82 (f82)) 83 (f83)) 84 (f84)) 85 (f85)) 96 (f96)) 99 (f99)) 104 (f104)) 105 (f105) = setA (setA (setA (setA (setA (setA (setA (setA (setA (m) 81 (g81)) 82 (g82)) 83 (g83)) 84 (g84)) 85 (g85)) 96 (g96)) 99 (g99)) 104 (g104)) 105 (g105) := by rw [e81, e82, e83, e84, e85, e96, e99, e104, e105]
theorem ch_undo_90 {m : PM} {f81 g81 f82 g82 f83 g83 f84 g84 f96 g96 f99 g99 f104 g104 f105 g105 : Int → Int} (e81 : f81 = g81) (e82 : f82 = g82) (e83 : f83 = g83) (e84 : f84 = g84) (e96 : f96 = g96) (e99 : f99 = g99) (e104 : f104 = g104) (e105 : f105 = g105) : setA (setA (setA (setA (setA (setA (setA (setA (m) 81 (f81)) 82 (f82)) 83 (f83)) 84 (f84)) 96 (f96)) 99 (f99)) 104 (f104)) 105 (f105) = setA (setA (setA (setA (setA (setA (setA (setA (m) 81 (g81)) 82 (g82)) 83 (g83)) 84 (g84)) 96 (g96)) 99 (g99)) 104 (g104)) 105 (g105) := by rw [e81, e82, e83, e84, e96, e99, e104, e105]
theorem ch_undo_52 {m : PM} {f81 g81 f96 g96 f99 g99 : Int → Int} (e81 : f81 = g81) (e96 : f96 = g96) (e99 : f99 = g99) : setA (setA (setA (m) 81 (f81)) 96 (f96)) 99 (f99) = setA (setA (setA (m) 81 (g81)) 96 (g96)) 99 (g99) := by rw [e81, e96, e99]
set_option maxHeartbeats 1000000 in
theorem c_undo {d : Nat}  {m : PM} {dy : List (Nat × Nat)} {L : Nat} {Q : Option PV → PS → Prop} (hd : 1 ≤ d) (hh : m 81 44 = 0 ∨ m 81 44 = 1) (hb : m 81 44 = 1 → ∀ k, 0 ≤ k → k < 24 → m 123 k = 0 ∨ m 123 k = 1) (o1 : (m 81 44 = 0) → Q (some (.inl (-3))) (m, (none, (dy, L)))) (o2 : (m 81 44 = 1) → Q (some (.inl (m 81 45))) (setA (setA (setA (setA (setA (setA (setA (setA (setA (setA (setA (setA (setA (setA (m) 81 (ud (ud (ud (ud (ud (m 81) 0 (m 81 46)) 22 (m 81 45)) 34 (m 81 47)) 37 (m 81 48)) 38 (m 81 49))) 82 (ivl (m 112) (m 82) 0 5)) 83 (ivl (m 113) (m 83) 0 5)) 84 (ivl (m 114) (m 84) 0 5)) 85 (ivl (m 115) (m 85) 0 20)) 96 (ivl (m 111) (m 96) 0 24)) 99 (ivl (m 123) (m 99) 0 24)) 104 (ivl (m 116) (m 104) 0 5)) 105 (ivl (m 117) (m 105) 0 5)) 106 (ivl (m 118) (m 106) 0 6)) 107 (ivl (m 119) (m 107) 0 6)) 108 (ivl (m 120) (m 108) 0 6)) 109 (ivl (m 121) (m 109) 0 8)) 110 (ivl (m 122) (m 110) 0 8), (none, (dy, L)))) : C d 197 [.inr (.inr 81)] (m, (none, (dy, L))) Q := by
  refine C_go (k := 0) hd xL_197 (fun d hd => ?_)
  show V d 197 (0, ([some (.inr (.inr 81)), none], ([], (m, (none, (dy, L)))))) Q
  refine v_aload_n (n := 1) xB_197 dX11_undo_0 rfl rfl ?_
  refine v_gf_i (n := 4) (kz := 44) xB_197 dX11_undo_1 xO_197 fl_11_144 fg_11_44 rfl (sh_81 _ _ _) rfl rfl ?_
  refine v_if_ne (t := 10) (n := 7) xB_197 dX11_undo_4 (by decide) rfl rfl (fun g1 => ?_) (fun g1 => ?_)
  · (try simp (disch := omega) only [sA_same, sA_ne, sA_sA, sA_sr, sB_s, ud_eq, ud_ne, ud_ud, ud_sr, uB_s, Int.add_zero, Int.reduceAdd] at g1)
    refine v_aload_n (n := 11) xB_197 dX11_undo_10 rfl rfl ?_
    refine v_aload_n (n := 12) xB_197 dX11_undo_11 rfl rfl ?_
    refine v_gf_i (n := 15) (kz := 45) xB_197 dX11_undo_12 xO_197 fl_11_148 fg_11_45 rfl (sh_81 _ _ _) rfl rfl ?_
    refine v_pf_i (n := 18) (kz := 22) xB_197 dX11_undo_15 xO_197 fl_11_78 fg_11_22 (Or.inl fn_11_22) (sh_81 _ _ _) (by decide) rfl rfl ?_
    (try simp (disch := omega) only [sA_same, sA_ne, sA_sA, sA_sr, sB_s, ud_eq, ud_ne, ud_ud, ud_sr, uB_s, Int.add_zero, Int.reduceAdd])
    refine v_aload_n (n := 19) xB_197 dX11_undo_18 rfl rfl ?_
    refine v_aload_n (n := 20) xB_197 dX11_undo_19 rfl rfl ?_
    refine v_gf_i (n := 23) (kz := 46) xB_197 dX11_undo_20 xO_197 fl_11_151 fg_11_46 rfl (sh_81 _ _ _) rfl rfl ?_
    refine v_pf_i (n := 26) (kz := 0) xB_197 dX11_undo_23 xO_197 fl_11_7 fg_11_0 (Or.inl fn_11_0) (sh_81 _ _ _) (by decide) rfl rfl ?_
    (try simp (disch := omega) only [sA_same, sA_ne, sA_sA, sA_sr, sB_s, ud_eq, ud_ne, ud_ud, ud_sr, uB_s, Int.add_zero, Int.reduceAdd])
    refine v_aload_n (n := 27) xB_197 dX11_undo_26 rfl rfl ?_
    refine v_aload_n (n := 28) xB_197 dX11_undo_27 rfl rfl ?_
    refine v_gf_i (n := 31) (kz := 47) xB_197 dX11_undo_28 xO_197 fl_11_154 fg_11_47 rfl (sh_81 _ _ _) rfl rfl ?_
    refine v_pf_i (n := 34) (kz := 34) xB_197 dX11_undo_31 xO_197 fl_11_114 fg_11_34 (Or.inl fn_11_34) (sh_81 _ _ _) (by decide) rfl rfl ?_
    (try simp (disch := omega) only [sA_same, sA_ne, sA_sA, sA_sr, sB_s, ud_eq, ud_ne, ud_ud, ud_sr, uB_s, Int.add_zero, Int.reduceAdd])
    refine v_aload_n (n := 35) xB_197 dX11_undo_34 rfl rfl ?_
    refine v_aload_n (n := 36) xB_197 dX11_undo_35 rfl rfl ?_
    refine v_gf_i (n := 39) (kz := 48) xB_197 dX11_undo_36 xO_197 fl_11_157 fg_11_48 rfl (sh_81 _ _ _) rfl rfl ?_
    refine v_pf_i (n := 42) (kz := 37) xB_197 dX11_undo_39 xO_197 fl_11_123 fg_11_37 (Or.inl fn_11_37) (sh_81 _ _ _) (by decide) rfl rfl ?_
    (try simp (disch := omega) only [sA_same, sA_ne, sA_sA, sA_sr, sB_s, ud_eq, ud_ne, ud_ud, ud_sr, uB_s, Int.add_zero, Int.reduceAdd])
    refine v_aload_n (n := 43) xB_197 dX11_undo_42 rfl rfl ?_
    refine v_aload_n (n := 44) xB_197 dX11_undo_43 rfl rfl ?_
    refine v_gf_i (n := 47) (kz := 49) xB_197 dX11_undo_44 xO_197 fl_11_160 fg_11_49 rfl (sh_81 _ _ _) rfl rfl ?_
    refine v_pf_i (n := 50) (kz := 38) xB_197 dX11_undo_47 xO_197 fl_11_126 fg_11_38 (Or.inl fn_11_38) (sh_81 _ _ _) (by decide) rfl rfl ?_
    (try simp (disch := omega) only [sA_same, sA_ne, sA_sA, sA_sr, sB_s, ud_eq, ud_ne, ud_ud, ud_sr, uB_s, Int.add_zero, Int.reduceAdd])
    refine v_iconst (n := 51) xB_197 dX11_undo_50 ⟨by decide, by decide⟩ rfl ?_
    refine v_istore_n1 (n := 52) xB_197 dX11_undo_51 rfl rfl ?_
    (try simp (disch := omega) only [sA_same, sA_ne, sA_sA, sA_sr, sB_s, ud_eq, ud_ne, ud_ud, ud_sr, uB_s, Int.add_zero, Int.reduceAdd])
    refine lp_up (F := fun (k : Int) (m' : PM) => V d 197 (52, ([some (.inr (.inr 81)), some (.inl (k))], ([], (m', (none, (dy, L)))))) Q) (E := fun (k : Int) (m' : PM) => m' = setA (setA (setA (m) 81 (ud (ud (ud (ud (ud (m 81) 0 (m 81 46)) 22 (m 81 45)) 34 (m 81 47)) 37 (m 81 48)) 38 (m 81 49))) 96 (ivl (m 111) (m 96) 0 (k))) 99 (ivl (m 123) (m 99) 0 (k))) (a := 0) (b := 24) ?_ ?_ (0) (_) (by first | omega | (simp only [sA_same, sA_s, ud_s, Int.reduceEq, if_true, if_false, ite_true, ite_false, ↓reduceIte, and_true, true_and, eq_self, Int.add_zero, Int.reduceAdd]; omega) | (simp (disch := omega) only [sA_same, sA_ne, ud_eq, ud_ne, Int.add_zero, Int.reduceAdd]; omega)) (by first | omega | (simp only [sA_same, sA_s, ud_s, Int.reduceEq, if_true, if_false, ite_true, ite_false, ↓reduceIte, and_true, true_and, eq_self, Int.add_zero, Int.reduceAdd]; omega) | (simp (disch := omega) only [sA_same, sA_ne, ud_eq, ud_ne, Int.add_zero, Int.reduceAdd]; omega)) ?_
    · intro m' hm
      show V d 197 (52, ([some (.inr (.inr 81)), some (.inl (24))], ([], (m', (none, (dy, L)))))) Q
      subst hm
      refine v_iload_n (n := 53) xB_197 dX11_undo_52 rfl rfl ?_
      refine v_bipush (n := 55) xB_197 dX11_undo_53 ⟨by decide, by decide⟩ rfl ?_
      refine v_ic_ge_y (t := 88) xB_197 dX11_undo_55 (by decide) rfl (by first | omega | (simp only [sA_same, sA_s, ud_s, Int.reduceEq, if_true, if_false, ite_true, ite_false, ↓reduceIte, and_true, true_and, eq_self, Int.add_zero, Int.reduceAdd]; omega) | (simp (disch := omega) only [sA_same, sA_ne, ud_eq, ud_ne, Int.add_zero, Int.reduceAdd]; omega)) ?_
      refine v_iconst (n := 89) xB_197 dX11_undo_88 ⟨by decide, by decide⟩ rfl ?_
      refine v_istore_n1 (n := 90) xB_197 dX11_undo_89 rfl rfl ?_
      refine lp_up (F := fun (k : Int) (m' : PM) => V d 197 (90, ([some (.inr (.inr 81)), some (.inl (k))], ([], (m', (none, (dy, L)))))) Q) (E := fun (k : Int) (m' : PM) => m' = setA (setA (setA (setA (setA (setA (setA (setA (m) 81 (ud (ud (ud (ud (ud (m 81) 0 (m 81 46)) 22 (m 81 45)) 34 (m 81 47)) 37 (m 81 48)) 38 (m 81 49))) 82 (ivl (m 112) (m 82) 0 (k))) 83 (ivl (m 113) (m 83) 0 (k))) 84 (ivl (m 114) (m 84) 0 (k))) 96 (ivl (m 111) (m 96) 0 24)) 99 (ivl (m 123) (m 99) 0 24)) 104 (ivl (m 116) (m 104) 0 (k))) 105 (ivl (m 117) (m 105) 0 (k))) (a := 0) (b := 5) ?_ ?_ (0) (_) (by first | omega | (simp only [sA_same, sA_s, ud_s, Int.reduceEq, if_true, if_false, ite_true, ite_false, ↓reduceIte, and_true, true_and, eq_self, Int.add_zero, Int.reduceAdd]; omega) | (simp (disch := omega) only [sA_same, sA_ne, ud_eq, ud_ne, Int.add_zero, Int.reduceAdd]; omega)) (by first | omega | (simp only [sA_same, sA_s, ud_s, Int.reduceEq, if_true, if_false, ite_true, ite_false, ↓reduceIte, and_true, true_and, eq_self, Int.add_zero, Int.reduceAdd]; omega) | (simp (disch := omega) only [sA_same, sA_ne, ud_eq, ud_ne, Int.add_zero, Int.reduceAdd]; omega)) ?_
      · intro m' hm
        show V d 197 (90, ([some (.inr (.inr 81)), some (.inl (5))], ([], (m', (none, (dy, L)))))) Q
        subst hm
        refine v_iload_n (n := 91) xB_197 dX11_undo_90 rfl rfl ?_
        refine v_iconst (n := 92) xB_197 dX11_undo_91 ⟨by decide, by decide⟩ rfl ?_
        refine v_ic_ge_y (t := 161) xB_197 dX11_undo_92 (by decide) rfl (by first | omega | (simp only [sA_same, sA_s, ud_s, Int.reduceEq, if_true, if_false, ite_true, ite_false, ↓reduceIte, and_true, true_and, eq_self, Int.add_zero, Int.reduceAdd]; omega) | (simp (disch := omega) only [sA_same, sA_ne, ud_eq, ud_ne, Int.add_zero, Int.reduceAdd]; omega)) ?_
        refine v_iconst (n := 162) xB_197 dX11_undo_161 ⟨by decide, by decide⟩ rfl ?_
        refine v_istore_n1 (n := 163) xB_197 dX11_undo_162 rfl rfl ?_
        refine lp_up (F := fun (k : Int) (m' : PM) => V d 197 (163, ([some (.inr (.inr 81)), some (.inl (k))], ([], (m', (none, (dy, L)))))) Q) (E := fun (k : Int) (m' : PM) => m' = setA (setA (setA (setA (setA (setA (setA (setA (setA (m) 81 (ud (ud (ud (ud (ud (m 81) 0 (m 81 46)) 22 (m 81 45)) 34 (m 81 47)) 37 (m 81 48)) 38 (m 81 49))) 82 (ivl (m 112) (m 82) 0 5)) 83 (ivl (m 113) (m 83) 0 5)) 84 (ivl (m 114) (m 84) 0 5)) 85 (ivl (m 115) (m 85) 0 (k))) 96 (ivl (m 111) (m 96) 0 24)) 99 (ivl (m 123) (m 99) 0 24)) 104 (ivl (m 116) (m 104) 0 5)) 105 (ivl (m 117) (m 105) 0 5)) (a := 0) (b := 20) ?_ ?_ (0) (_) (by first | omega | (simp only [sA_same, sA_s, ud_s, Int.reduceEq, if_true, if_false, ite_true, ite_false, ↓reduceIte, and_true, true_and, eq_self, Int.add_zero, Int.reduceAdd]; omega) | (simp (disch := omega) only [sA_same, sA_ne, ud_eq, ud_ne, Int.add_zero, Int.reduceAdd]; omega)) (by first | omega | (simp only [sA_same, sA_s, ud_s, Int.reduceEq, if_true, if_false, ite_true, ite_false, ↓reduceIte, and_true, true_and, eq_self, Int.add_zero, Int.reduceAdd]; omega) | (simp (disch := omega) only [sA_same, sA_ne, ud_eq, ud_ne, Int.add_zero, Int.reduceAdd]; omega)) ?_
        · intro m' hm
          show V d 197 (163, ([some (.inr (.inr 81)), some (.inl (20))], ([], (m', (none, (dy, L)))))) Q
          subst hm
          refine v_iload_n (n := 164) xB_197 dX11_undo_163 rfl rfl ?_
          refine v_bipush (n := 166) xB_197 dX11_undo_164 ⟨by decide, by decide⟩ rfl ?_
          refine v_ic_ge_y (t := 187) xB_197 dX11_undo_166 (by decide) rfl (by first | omega | (simp only [sA_same, sA_s, ud_s, Int.reduceEq, if_true, if_false, ite_true, ite_false, ↓reduceIte, and_true, true_and, eq_self, Int.add_zero, Int.reduceAdd]; omega) | (simp (disch := omega) only [sA_same, sA_ne, ud_eq, ud_ne, Int.add_zero, Int.reduceAdd]; omega)) ?_
          refine v_iconst (n := 188) xB_197 dX11_undo_187 ⟨by decide, by decide⟩ rfl ?_
          refine v_istore_n1 (n := 189) xB_197 dX11_undo_188 rfl rfl ?_
          refine lp_up (F := fun (k : Int) (m' : PM) => V d 197 (189, ([some (.inr (.inr 81)), some (.inl (k))], ([], (m', (none, (dy, L)))))) Q) (E := fun (k : Int) (m' : PM) => m' = setA (setA (setA (setA (setA (setA (setA (setA (setA (setA (setA (setA (m) 81 (ud (ud (ud (ud (ud (m 81) 0 (m 81 46)) 22 (m 81 45)) 34 (m 81 47)) 37 (m 81 48)) 38 (m 81 49))) 82 (ivl (m 112) (m 82) 0 5)) 83 (ivl (m 113) (m 83) 0 5)) 84 (ivl (m 114) (m 84) 0 5)) 85 (ivl (m 115) (m 85) 0 20)) 96 (ivl (m 111) (m 96) 0 24)) 99 (ivl (m 123) (m 99) 0 24)) 104 (ivl (m 116) (m 104) 0 5)) 105 (ivl (m 117) (m 105) 0 5)) 106 (ivl (m 118) (m 106) 0 (k))) 107 (ivl (m 119) (m 107) 0 (k))) 108 (ivl (m 120) (m 108) 0 (k))) (a := 0) (b := 6) ?_ ?_ (0) (_) (by first | omega | (simp only [sA_same, sA_s, ud_s, Int.reduceEq, if_true, if_false, ite_true, ite_false, ↓reduceIte, and_true, true_and, eq_self, Int.add_zero, Int.reduceAdd]; omega) | (simp (disch := omega) only [sA_same, sA_ne, ud_eq, ud_ne, Int.add_zero, Int.reduceAdd]; omega)) (by first | omega | (simp only [sA_same, sA_s, ud_s, Int.reduceEq, if_true, if_false, ite_true, ite_false, ↓reduceIte, and_true, true_and, eq_self, Int.add_zero, Int.reduceAdd]; omega) | (simp (disch := omega) only [sA_same, sA_ne, ud_eq, ud_ne, Int.add_zero, Int.reduceAdd]; omega)) ?_
          · intro m' hm
            show V d 197 (189, ([some (.inr (.inr 81)), some (.inl (6))], ([], (m', (none, (dy, L)))))) Q
            subst hm
            refine v_iload_n (n := 190) xB_197 dX11_undo_189 rfl rfl ?_
            refine v_bipush (n := 192) xB_197 dX11_undo_190 ⟨by decide, by decide⟩ rfl ?_
            refine v_ic_ge_y (t := 237) xB_197 dX11_undo_192 (by decide) rfl (by first | omega | (simp only [sA_same, sA_s, ud_s, Int.reduceEq, if_true, if_false, ite_true, ite_false, ↓reduceIte, and_true, true_and, eq_self, Int.add_zero, Int.reduceAdd]; omega) | (simp (disch := omega) only [sA_same, sA_ne, ud_eq, ud_ne, Int.add_zero, Int.reduceAdd]; omega)) ?_
            refine v_iconst (n := 238) xB_197 dX11_undo_237 ⟨by decide, by decide⟩ rfl ?_
            refine v_istore_n1 (n := 239) xB_197 dX11_undo_238 rfl rfl ?_
            refine lp_up (F := fun (k : Int) (m' : PM) => V d 197 (239, ([some (.inr (.inr 81)), some (.inl (k))], ([], (m', (none, (dy, L)))))) Q) (E := fun (k : Int) (m' : PM) => m' = setA (setA (setA (setA (setA (setA (setA (setA (setA (setA (setA (setA (setA (setA (m) 81 (ud (ud (ud (ud (ud (m 81) 0 (m 81 46)) 22 (m 81 45)) 34 (m 81 47)) 37 (m 81 48)) 38 (m 81 49))) 82 (ivl (m 112) (m 82) 0 5)) 83 (ivl (m 113) (m 83) 0 5)) 84 (ivl (m 114) (m 84) 0 5)) 85 (ivl (m 115) (m 85) 0 20)) 96 (ivl (m 111) (m 96) 0 24)) 99 (ivl (m 123) (m 99) 0 24)) 104 (ivl (m 116) (m 104) 0 5)) 105 (ivl (m 117) (m 105) 0 5)) 106 (ivl (m 118) (m 106) 0 6)) 107 (ivl (m 119) (m 107) 0 6)) 108 (ivl (m 120) (m 108) 0 6)) 109 (ivl (m 121) (m 109) 0 (k))) 110 (ivl (m 122) (m 110) 0 (k))) (a := 0) (b := 8) ?_ ?_ (0) (_) (by first | omega | (simp only [sA_same, sA_s, ud_s, Int.reduceEq, if_true, if_false, ite_true, ite_false, ↓reduceIte, and_true, true_and, eq_self, Int.add_zero, Int.reduceAdd]; omega) | (simp (disch := omega) only [sA_same, sA_ne, ud_eq, ud_ne, Int.add_zero, Int.reduceAdd]; omega)) (by first | omega | (simp only [sA_same, sA_s, ud_s, Int.reduceEq, if_true, if_false, ite_true, ite_false, ↓reduceIte, and_true, true_and, eq_self, Int.add_zero, Int.reduceAdd]; omega) | (simp (disch := omega) only [sA_same, sA_ne, ud_eq, ud_ne, Int.add_zero, Int.reduceAdd]; omega)) ?_
            · intro m' hm
              show V d 197 (239, ([some (.inr (.inr 81)), some (.inl (8))], ([], (m', (none, (dy, L)))))) Q
              subst hm
              refine v_iload_n (n := 240) xB_197 dX11_undo_239 rfl rfl ?_
              refine v_bipush (n := 242) xB_197 dX11_undo_240 ⟨by decide, by decide⟩ rfl ?_
              refine v_ic_ge_y (t := 275) xB_197 dX11_undo_242 (by decide) rfl (by first | omega | (simp only [sA_same, sA_s, ud_s, Int.reduceEq, if_true, if_false, ite_true, ite_false, ↓reduceIte, and_true, true_and, eq_self, Int.add_zero, Int.reduceAdd]; omega) | (simp (disch := omega) only [sA_same, sA_ne, ud_eq, ud_ne, Int.add_zero, Int.reduceAdd]; omega)) ?_
              refine v_aload_n (n := 276) xB_197 dX11_undo_275 rfl rfl ?_
              refine v_gf_i (n := 279) (kz := 22) xB_197 dX11_undo_276 xO_197 fl_11_78 fg_11_22 rfl (sh_81 _ _ _) rfl rfl ?_
              refine v_ireturn0 xB_197 dX11_undo_279 xK_197 ?_
              (try simp (disch := omega) only [sA_same, sA_ne, sA_sA, sA_sr, sB_s, ud_eq, ud_ne, ud_ud, ud_sr, uB_s, Int.add_zero, Int.reduceAdd])
              exact (o2 (by omega))
            · intro k m' h1 h2 hm ih
              show V d 197 (239, ([some (.inr (.inr 81)), some (.inl (k))], ([], (m', (none, (dy, L)))))) Q
              subst hm
              refine v_iload_n (n := 240) xB_197 dX11_undo_239 rfl rfl ?_
              refine v_bipush (n := 242) xB_197 dX11_undo_240 ⟨by decide, by decide⟩ rfl ?_
              refine v_ic_ge_n (n := 245) xB_197 dX11_undo_242 (by decide) rfl (by first | omega | (simp only [sA_same, sA_s, ud_s, Int.reduceEq, if_true, if_false, ite_true, ite_false, ↓reduceIte, and_true, true_and, eq_self, Int.add_zero, Int.reduceAdd]; omega) | (simp (disch := omega) only [sA_same, sA_ne, ud_eq, ud_ne, Int.add_zero, Int.reduceAdd]; omega)) ?_
              refine v_aload_n (n := 246) xB_197 dX11_undo_245 rfl rfl ?_
              refine v_gf_s (n := 249) (kz := 42) xB_197 dX11_undo_246 xO_197 fl_11_138 fg_11_42 (sh_81 _ _ _) rfl st_81_42 rfl ?_
              refine v_iload_n (n := 250) xB_197 dX11_undo_249 rfl rfl ?_
              refine v_aload_n (n := 251) xB_197 dX11_undo_250 rfl rfl ?_
              refine v_gf_s (n := 254) (kz := 60) xB_197 dX11_undo_251 xO_197 fl_11_193 fg_11_60 (sh_81 _ _ _) rfl st_81_60 rfl ?_
              refine v_iload_n (n := 255) xB_197 dX11_undo_254 rfl rfl ?_
              refine v_iaload (n := 256) (lz := 8) xB_197 dX11_undo_255 (sh_121 _ _ _) rfl (by first | omega | (simp only [sA_same, sA_s, ud_s, Int.reduceEq, if_true, if_false, ite_true, ite_false, ↓reduceIte, and_true, true_and, eq_self, Int.add_zero, Int.reduceAdd]; omega) | (simp (disch := omega) only [sA_same, sA_ne, ud_eq, ud_ne, Int.add_zero, Int.reduceAdd]; omega)) rfl ?_
              refine v_iastore (n := 257) (lz := 8) xB_197 dX11_undo_256 (sh_109 _ _ _) (by decide) rfl (by first | omega | (simp only [sA_same, sA_s, ud_s, Int.reduceEq, if_true, if_false, ite_true, ite_false, ↓reduceIte, and_true, true_and, eq_self, Int.add_zero, Int.reduceAdd]; omega) | (simp (disch := omega) only [sA_same, sA_ne, ud_eq, ud_ne, Int.add_zero, Int.reduceAdd]; omega)) rfl ?_
              (try simp (disch := omega) only [sA_same, sA_ne, sA_sA, sA_sr, sB_s, ud_eq, ud_ne, ud_ud, ud_sr, uB_s, Int.add_zero, Int.reduceAdd])
              refine v_aload_n (n := 258) xB_197 dX11_undo_257 rfl rfl ?_
              refine v_gf_s (n := 261) (kz := 43) xB_197 dX11_undo_258 xO_197 fl_11_141 fg_11_43 (sh_81 _ _ _) rfl st_81_43 rfl ?_
              refine v_iload_n (n := 262) xB_197 dX11_undo_261 rfl rfl ?_
              refine v_aload_n (n := 263) xB_197 dX11_undo_262 rfl rfl ?_
              refine v_gf_s (n := 266) (kz := 61) xB_197 dX11_undo_263 xO_197 fl_11_196 fg_11_61 (sh_81 _ _ _) rfl st_81_61 rfl ?_
              refine v_iload_n (n := 267) xB_197 dX11_undo_266 rfl rfl ?_
              refine v_iaload (n := 268) (lz := 8) xB_197 dX11_undo_267 (sh_122 _ _ _) rfl (by first | omega | (simp only [sA_same, sA_s, ud_s, Int.reduceEq, if_true, if_false, ite_true, ite_false, ↓reduceIte, and_true, true_and, eq_self, Int.add_zero, Int.reduceAdd]; omega) | (simp (disch := omega) only [sA_same, sA_ne, ud_eq, ud_ne, Int.add_zero, Int.reduceAdd]; omega)) rfl ?_
              refine v_iastore (n := 269) (lz := 8) xB_197 dX11_undo_268 (sh_110 _ _ _) (by decide) rfl (by first | omega | (simp only [sA_same, sA_s, ud_s, Int.reduceEq, if_true, if_false, ite_true, ite_false, ↓reduceIte, and_true, true_and, eq_self, Int.add_zero, Int.reduceAdd]; omega) | (simp (disch := omega) only [sA_same, sA_ne, ud_eq, ud_ne, Int.add_zero, Int.reduceAdd]; omega)) rfl ?_
              (try simp (disch := omega) only [sA_same, sA_ne, sA_sA, sA_sr, sB_s, ud_eq, ud_ne, ud_ud, ud_sr, uB_s, Int.add_zero, Int.reduceAdd])
              refine v_iinc1 (n := 272) xB_197 dX11_undo_269 rfl (by first | omega | (simp only [sA_same, sA_s, ud_s, Int.reduceEq, if_true, if_false, ite_true, ite_false, ↓reduceIte, and_true, true_and, eq_self, Int.add_zero, Int.reduceAdd]; omega) | (simp (disch := omega) only [sA_same, sA_ne, ud_eq, ud_ne, Int.add_zero, Int.reduceAdd]; omega)) rfl ?_
              refine v_goto (t := 239) xB_197 dX11_undo_272 (by decide) rfl ?_
              refine ih _ ?_
              (try simp (disch := omega) only [sA_same, sA_ne, sA_sA, sA_sr, sB_s, ud_eq, ud_ne, ud_ud, ud_sr, uB_s, Int.add_zero, Int.reduceAdd])
              exact ch_undo_239 rfl rfl rfl rfl rfl rfl rfl rfl rfl rfl rfl rfl (by funext j'; simp only [ud_s, ivl]; (repeat' split) <;> first | rfl | omega | (exfalso; omega) | (congr 1; omega)) (by funext j'; simp only [ud_s, ivl]; (repeat' split) <;> first | rfl | omega | (exfalso; omega) | (congr 1; omega))
            · rw [ivl_0 (lo := 0) (hi := 0) (by omega), ivl_0 (lo := 0) (hi := 0) (by omega)]
              rw [sA_x (a := 109) (by simp (disch := omega) only [sA_ne]), sA_x (a := 110) (by simp (disch := omega) only [sA_ne])]
          · intro k m' h1 h2 hm ih
            show V d 197 (189, ([some (.inr (.inr 81)), some (.inl (k))], ([], (m', (none, (dy, L)))))) Q
            subst hm
            refine v_iload_n (n := 190) xB_197 dX11_undo_189 rfl rfl ?_
            refine v_bipush (n := 192) xB_197 dX11_undo_190 ⟨by decide, by decide⟩ rfl ?_
            refine v_ic_ge_n (n := 195) xB_197 dX11_undo_192 (by decide) rfl (by first | omega | (simp only [sA_same, sA_s, ud_s, Int.reduceEq, if_true, if_false, ite_true, ite_false, ↓reduceIte, and_true, true_and, eq_self, Int.add_zero, Int.reduceAdd]; omega) | (simp (disch := omega) only [sA_same, sA_ne, ud_eq, ud_ne, Int.add_zero, Int.reduceAdd]; omega)) ?_
            refine v_aload_n (n := 196) xB_197 dX11_undo_195 rfl rfl ?_
            refine v_gf_s (n := 199) (kz := 39) xB_197 dX11_undo_196 xO_197 fl_11_129 fg_11_39 (sh_81 _ _ _) rfl st_81_39 rfl ?_
            refine v_iload_n (n := 200) xB_197 dX11_undo_199 rfl rfl ?_
            refine v_aload_n (n := 201) xB_197 dX11_undo_200 rfl rfl ?_
            refine v_gf_s (n := 204) (kz := 57) xB_197 dX11_undo_201 xO_197 fl_11_184 fg_11_57 (sh_81 _ _ _) rfl st_81_57 rfl ?_
            refine v_iload_n (n := 205) xB_197 dX11_undo_204 rfl rfl ?_
            refine v_iaload (n := 206) (lz := 6) xB_197 dX11_undo_205 (sh_118 _ _ _) rfl (by first | omega | (simp only [sA_same, sA_s, ud_s, Int.reduceEq, if_true, if_false, ite_true, ite_false, ↓reduceIte, and_true, true_and, eq_self, Int.add_zero, Int.reduceAdd]; omega) | (simp (disch := omega) only [sA_same, sA_ne, ud_eq, ud_ne, Int.add_zero, Int.reduceAdd]; omega)) rfl ?_
            refine v_iastore (n := 207) (lz := 6) xB_197 dX11_undo_206 (sh_106 _ _ _) (by decide) rfl (by first | omega | (simp only [sA_same, sA_s, ud_s, Int.reduceEq, if_true, if_false, ite_true, ite_false, ↓reduceIte, and_true, true_and, eq_self, Int.add_zero, Int.reduceAdd]; omega) | (simp (disch := omega) only [sA_same, sA_ne, ud_eq, ud_ne, Int.add_zero, Int.reduceAdd]; omega)) rfl ?_
            (try simp (disch := omega) only [sA_same, sA_ne, sA_sA, sA_sr, sB_s, ud_eq, ud_ne, ud_ud, ud_sr, uB_s, Int.add_zero, Int.reduceAdd])
            refine v_aload_n (n := 208) xB_197 dX11_undo_207 rfl rfl ?_
            refine v_gf_s (n := 211) (kz := 40) xB_197 dX11_undo_208 xO_197 fl_11_132 fg_11_40 (sh_81 _ _ _) rfl st_81_40 rfl ?_
            refine v_iload_n (n := 212) xB_197 dX11_undo_211 rfl rfl ?_
            refine v_aload_n (n := 213) xB_197 dX11_undo_212 rfl rfl ?_
            refine v_gf_s (n := 216) (kz := 58) xB_197 dX11_undo_213 xO_197 fl_11_187 fg_11_58 (sh_81 _ _ _) rfl st_81_58 rfl ?_
            refine v_iload_n (n := 217) xB_197 dX11_undo_216 rfl rfl ?_
            refine v_iaload (n := 218) (lz := 6) xB_197 dX11_undo_217 (sh_119 _ _ _) rfl (by first | omega | (simp only [sA_same, sA_s, ud_s, Int.reduceEq, if_true, if_false, ite_true, ite_false, ↓reduceIte, and_true, true_and, eq_self, Int.add_zero, Int.reduceAdd]; omega) | (simp (disch := omega) only [sA_same, sA_ne, ud_eq, ud_ne, Int.add_zero, Int.reduceAdd]; omega)) rfl ?_
            refine v_iastore (n := 219) (lz := 6) xB_197 dX11_undo_218 (sh_107 _ _ _) (by decide) rfl (by first | omega | (simp only [sA_same, sA_s, ud_s, Int.reduceEq, if_true, if_false, ite_true, ite_false, ↓reduceIte, and_true, true_and, eq_self, Int.add_zero, Int.reduceAdd]; omega) | (simp (disch := omega) only [sA_same, sA_ne, ud_eq, ud_ne, Int.add_zero, Int.reduceAdd]; omega)) rfl ?_
            (try simp (disch := omega) only [sA_same, sA_ne, sA_sA, sA_sr, sB_s, ud_eq, ud_ne, ud_ud, ud_sr, uB_s, Int.add_zero, Int.reduceAdd])
            refine v_aload_n (n := 220) xB_197 dX11_undo_219 rfl rfl ?_
            refine v_gf_s (n := 223) (kz := 41) xB_197 dX11_undo_220 xO_197 fl_11_135 fg_11_41 (sh_81 _ _ _) rfl st_81_41 rfl ?_
            refine v_iload_n (n := 224) xB_197 dX11_undo_223 rfl rfl ?_
            refine v_aload_n (n := 225) xB_197 dX11_undo_224 rfl rfl ?_
            refine v_gf_s (n := 228) (kz := 59) xB_197 dX11_undo_225 xO_197 fl_11_190 fg_11_59 (sh_81 _ _ _) rfl st_81_59 rfl ?_
            refine v_iload_n (n := 229) xB_197 dX11_undo_228 rfl rfl ?_
            refine v_iaload (n := 230) (lz := 6) xB_197 dX11_undo_229 (sh_120 _ _ _) rfl (by first | omega | (simp only [sA_same, sA_s, ud_s, Int.reduceEq, if_true, if_false, ite_true, ite_false, ↓reduceIte, and_true, true_and, eq_self, Int.add_zero, Int.reduceAdd]; omega) | (simp (disch := omega) only [sA_same, sA_ne, ud_eq, ud_ne, Int.add_zero, Int.reduceAdd]; omega)) rfl ?_
            refine v_iastore (n := 231) (lz := 6) xB_197 dX11_undo_230 (sh_108 _ _ _) (by decide) rfl (by first | omega | (simp only [sA_same, sA_s, ud_s, Int.reduceEq, if_true, if_false, ite_true, ite_false, ↓reduceIte, and_true, true_and, eq_self, Int.add_zero, Int.reduceAdd]; omega) | (simp (disch := omega) only [sA_same, sA_ne, ud_eq, ud_ne, Int.add_zero, Int.reduceAdd]; omega)) rfl ?_
            (try simp (disch := omega) only [sA_same, sA_ne, sA_sA, sA_sr, sB_s, ud_eq, ud_ne, ud_ud, ud_sr, uB_s, Int.add_zero, Int.reduceAdd])
            refine v_iinc1 (n := 234) xB_197 dX11_undo_231 rfl (by first | omega | (simp only [sA_same, sA_s, ud_s, Int.reduceEq, if_true, if_false, ite_true, ite_false, ↓reduceIte, and_true, true_and, eq_self, Int.add_zero, Int.reduceAdd]; omega) | (simp (disch := omega) only [sA_same, sA_ne, ud_eq, ud_ne, Int.add_zero, Int.reduceAdd]; omega)) rfl ?_
            refine v_goto (t := 189) xB_197 dX11_undo_234 (by decide) rfl ?_
            refine ih _ ?_
            (try simp (disch := omega) only [sA_same, sA_ne, sA_sA, sA_sr, sB_s, ud_eq, ud_ne, ud_ud, ud_sr, uB_s, Int.add_zero, Int.reduceAdd])
            exact ch_undo_189 rfl rfl rfl rfl rfl rfl rfl rfl rfl (by funext j'; simp only [ud_s, ivl]; (repeat' split) <;> first | rfl | omega | (exfalso; omega) | (congr 1; omega)) (by funext j'; simp only [ud_s, ivl]; (repeat' split) <;> first | rfl | omega | (exfalso; omega) | (congr 1; omega)) (by funext j'; simp only [ud_s, ivl]; (repeat' split) <;> first | rfl | omega | (exfalso; omega) | (congr 1; omega))
          · rw [ivl_0 (lo := 0) (hi := 0) (by omega), ivl_0 (lo := 0) (hi := 0) (by omega), ivl_0 (lo := 0) (hi := 0) (by omega)]
            rw [sA_x (a := 106) (by simp (disch := omega) only [sA_ne]), sA_x (a := 107) (by simp (disch := omega) only [sA_ne]), sA_x (a := 108) (by simp (disch := omega) only [sA_ne])]
        · intro k m' h1 h2 hm ih
          show V d 197 (163, ([some (.inr (.inr 81)), some (.inl (k))], ([], (m', (none, (dy, L)))))) Q
          subst hm
          refine v_iload_n (n := 164) xB_197 dX11_undo_163 rfl rfl ?_
          refine v_bipush (n := 166) xB_197 dX11_undo_164 ⟨by decide, by decide⟩ rfl ?_
          refine v_ic_ge_n (n := 169) xB_197 dX11_undo_166 (by decide) rfl (by first | omega | (simp only [sA_same, sA_s, ud_s, Int.reduceEq, if_true, if_false, ite_true, ite_false, ↓reduceIte, and_true, true_and, eq_self, Int.add_zero, Int.reduceAdd]; omega) | (simp (disch := omega) only [sA_same, sA_ne, ud_eq, ud_ne, Int.add_zero, Int.reduceAdd]; omega)) ?_
          refine v_aload_n (n := 170) xB_197 dX11_undo_169 rfl rfl ?_
          refine v_gf_s (n := 173) (kz := 4) xB_197 dX11_undo_170 xO_197 fl_11_23 fg_11_4 (sh_81 _ _ _) rfl st_81_4 rfl ?_
          refine v_iload_n (n := 174) xB_197 dX11_undo_173 rfl rfl ?_
          refine v_aload_n (n := 175) xB_197 dX11_undo_174 rfl rfl ?_
          refine v_gf_s (n := 178) (kz := 54) xB_197 dX11_undo_175 xO_197 fl_11_175 fg_11_54 (sh_81 _ _ _) rfl st_81_54 rfl ?_
          refine v_iload_n (n := 179) xB_197 dX11_undo_178 rfl rfl ?_
          refine v_iaload (n := 180) (lz := 20) xB_197 dX11_undo_179 (sh_115 _ _ _) rfl (by first | omega | (simp only [sA_same, sA_s, ud_s, Int.reduceEq, if_true, if_false, ite_true, ite_false, ↓reduceIte, and_true, true_and, eq_self, Int.add_zero, Int.reduceAdd]; omega) | (simp (disch := omega) only [sA_same, sA_ne, ud_eq, ud_ne, Int.add_zero, Int.reduceAdd]; omega)) rfl ?_
          refine v_iastore (n := 181) (lz := 20) xB_197 dX11_undo_180 (sh_85 _ _ _) (by decide) rfl (by first | omega | (simp only [sA_same, sA_s, ud_s, Int.reduceEq, if_true, if_false, ite_true, ite_false, ↓reduceIte, and_true, true_and, eq_self, Int.add_zero, Int.reduceAdd]; omega) | (simp (disch := omega) only [sA_same, sA_ne, ud_eq, ud_ne, Int.add_zero, Int.reduceAdd]; omega)) rfl ?_
          (try simp (disch := omega) only [sA_same, sA_ne, sA_sA, sA_sr, sB_s, ud_eq, ud_ne, ud_ud, ud_sr, uB_s, Int.add_zero, Int.reduceAdd])
          refine v_iinc1 (n := 184) xB_197 dX11_undo_181 rfl (by first | omega | (simp only [sA_same, sA_s, ud_s, Int.reduceEq, if_true, if_false, ite_true, ite_false, ↓reduceIte, and_true, true_and, eq_self, Int.add_zero, Int.reduceAdd]; omega) | (simp (disch := omega) only [sA_same, sA_ne, ud_eq, ud_ne, Int.add_zero, Int.reduceAdd]; omega)) rfl ?_
          refine v_goto (t := 163) xB_197 dX11_undo_184 (by decide) rfl ?_
          refine ih _ ?_
          (try simp (disch := omega) only [sA_same, sA_ne, sA_sA, sA_sr, sB_s, ud_eq, ud_ne, ud_ud, ud_sr, uB_s, Int.add_zero, Int.reduceAdd])
          exact ch_undo_163 rfl rfl rfl rfl (by funext j'; simp only [ud_s, ivl]; (repeat' split) <;> first | rfl | omega | (exfalso; omega) | (congr 1; omega)) rfl rfl rfl rfl
        · rw [ivl_0 (lo := 0) (hi := 0) (by omega)]
          rw [sA_x (a := 85) (by simp (disch := omega) only [sA_ne])]
      · intro k m' h1 h2 hm ih
        show V d 197 (90, ([some (.inr (.inr 81)), some (.inl (k))], ([], (m', (none, (dy, L)))))) Q
        subst hm
        refine v_iload_n (n := 91) xB_197 dX11_undo_90 rfl rfl ?_
        refine v_iconst (n := 92) xB_197 dX11_undo_91 ⟨by decide, by decide⟩ rfl ?_
        refine v_ic_ge_n (n := 95) xB_197 dX11_undo_92 (by decide) rfl (by first | omega | (simp only [sA_same, sA_s, ud_s, Int.reduceEq, if_true, if_false, ite_true, ite_false, ↓reduceIte, and_true, true_and, eq_self, Int.add_zero, Int.reduceAdd]; omega) | (simp (disch := omega) only [sA_same, sA_ne, ud_eq, ud_ne, Int.add_zero, Int.reduceAdd]; omega)) ?_
        refine v_aload_n (n := 96) xB_197 dX11_undo_95 rfl rfl ?_
        refine v_gf_s (n := 99) (kz := 1) xB_197 dX11_undo_96 xO_197 fl_11_13 fg_11_1 (sh_81 _ _ _) rfl st_81_1 rfl ?_
        refine v_iload_n (n := 100) xB_197 dX11_undo_99 rfl rfl ?_
        refine v_aload_n (n := 101) xB_197 dX11_undo_100 rfl rfl ?_
        refine v_gf_s (n := 104) (kz := 51) xB_197 dX11_undo_101 xO_197 fl_11_166 fg_11_51 (sh_81 _ _ _) rfl st_81_51 rfl ?_
        refine v_iload_n (n := 105) xB_197 dX11_undo_104 rfl rfl ?_
        refine v_iaload (n := 106) (lz := 5) xB_197 dX11_undo_105 (sh_112 _ _ _) rfl (by first | omega | (simp only [sA_same, sA_s, ud_s, Int.reduceEq, if_true, if_false, ite_true, ite_false, ↓reduceIte, and_true, true_and, eq_self, Int.add_zero, Int.reduceAdd]; omega) | (simp (disch := omega) only [sA_same, sA_ne, ud_eq, ud_ne, Int.add_zero, Int.reduceAdd]; omega)) rfl ?_
        refine v_iastore (n := 107) (lz := 5) xB_197 dX11_undo_106 (sh_82 _ _ _) (by decide) rfl (by first | omega | (simp only [sA_same, sA_s, ud_s, Int.reduceEq, if_true, if_false, ite_true, ite_false, ↓reduceIte, and_true, true_and, eq_self, Int.add_zero, Int.reduceAdd]; omega) | (simp (disch := omega) only [sA_same, sA_ne, ud_eq, ud_ne, Int.add_zero, Int.reduceAdd]; omega)) rfl ?_
        (try simp (disch := omega) only [sA_same, sA_ne, sA_sA, sA_sr, sB_s, ud_eq, ud_ne, ud_ud, ud_sr, uB_s, Int.add_zero, Int.reduceAdd])
        refine v_aload_n (n := 108) xB_197 dX11_undo_107 rfl rfl ?_
        refine v_gf_s (n := 111) (kz := 2) xB_197 dX11_undo_108 xO_197 fl_11_17 fg_11_2 (sh_81 _ _ _) rfl st_81_2 rfl ?_
        refine v_iload_n (n := 112) xB_197 dX11_undo_111 rfl rfl ?_
        refine v_aload_n (n := 113) xB_197 dX11_undo_112 rfl rfl ?_
        refine v_gf_s (n := 116) (kz := 52) xB_197 dX11_undo_113 xO_197 fl_11_169 fg_11_52 (sh_81 _ _ _) rfl st_81_52 rfl ?_
        refine v_iload_n (n := 117) xB_197 dX11_undo_116 rfl rfl ?_
        refine v_iaload (n := 118) (lz := 5) xB_197 dX11_undo_117 (sh_113 _ _ _) rfl (by first | omega | (simp only [sA_same, sA_s, ud_s, Int.reduceEq, if_true, if_false, ite_true, ite_false, ↓reduceIte, and_true, true_and, eq_self, Int.add_zero, Int.reduceAdd]; omega) | (simp (disch := omega) only [sA_same, sA_ne, ud_eq, ud_ne, Int.add_zero, Int.reduceAdd]; omega)) rfl ?_
        refine v_iastore (n := 119) (lz := 5) xB_197 dX11_undo_118 (sh_83 _ _ _) (by decide) rfl (by first | omega | (simp only [sA_same, sA_s, ud_s, Int.reduceEq, if_true, if_false, ite_true, ite_false, ↓reduceIte, and_true, true_and, eq_self, Int.add_zero, Int.reduceAdd]; omega) | (simp (disch := omega) only [sA_same, sA_ne, ud_eq, ud_ne, Int.add_zero, Int.reduceAdd]; omega)) rfl ?_
        (try simp (disch := omega) only [sA_same, sA_ne, sA_sA, sA_sr, sB_s, ud_eq, ud_ne, ud_ud, ud_sr, uB_s, Int.add_zero, Int.reduceAdd])
        refine v_aload_n (n := 120) xB_197 dX11_undo_119 rfl rfl ?_
        refine v_gf_s (n := 123) (kz := 3) xB_197 dX11_undo_120 xO_197 fl_11_20 fg_11_3 (sh_81 _ _ _) rfl st_81_3 rfl ?_
        refine v_iload_n (n := 124) xB_197 dX11_undo_123 rfl rfl ?_
        refine v_aload_n (n := 125) xB_197 dX11_undo_124 rfl rfl ?_
        refine v_gf_s (n := 128) (kz := 53) xB_197 dX11_undo_125 xO_197 fl_11_172 fg_11_53 (sh_81 _ _ _) rfl st_81_53 rfl ?_
        refine v_iload_n (n := 129) xB_197 dX11_undo_128 rfl rfl ?_
        refine v_iaload (n := 130) (lz := 5) xB_197 dX11_undo_129 (sh_114 _ _ _) rfl (by first | omega | (simp only [sA_same, sA_s, ud_s, Int.reduceEq, if_true, if_false, ite_true, ite_false, ↓reduceIte, and_true, true_and, eq_self, Int.add_zero, Int.reduceAdd]; omega) | (simp (disch := omega) only [sA_same, sA_ne, ud_eq, ud_ne, Int.add_zero, Int.reduceAdd]; omega)) rfl ?_
        refine v_iastore (n := 131) (lz := 5) xB_197 dX11_undo_130 (sh_84 _ _ _) (by decide) rfl (by first | omega | (simp only [sA_same, sA_s, ud_s, Int.reduceEq, if_true, if_false, ite_true, ite_false, ↓reduceIte, and_true, true_and, eq_self, Int.add_zero, Int.reduceAdd]; omega) | (simp (disch := omega) only [sA_same, sA_ne, ud_eq, ud_ne, Int.add_zero, Int.reduceAdd]; omega)) rfl ?_
        (try simp (disch := omega) only [sA_same, sA_ne, sA_sA, sA_sr, sB_s, ud_eq, ud_ne, ud_ud, ud_sr, uB_s, Int.add_zero, Int.reduceAdd])
        refine v_aload_n (n := 132) xB_197 dX11_undo_131 rfl rfl ?_
        refine v_gf_s (n := 135) (kz := 35) xB_197 dX11_undo_132 xO_197 fl_11_117 fg_11_35 (sh_81 _ _ _) rfl st_81_35 rfl ?_
        refine v_iload_n (n := 136) xB_197 dX11_undo_135 rfl rfl ?_
        refine v_aload_n (n := 137) xB_197 dX11_undo_136 rfl rfl ?_
        refine v_gf_s (n := 140) (kz := 55) xB_197 dX11_undo_137 xO_197 fl_11_178 fg_11_55 (sh_81 _ _ _) rfl st_81_55 rfl ?_
        refine v_iload_n (n := 141) xB_197 dX11_undo_140 rfl rfl ?_
        refine v_iaload (n := 142) (lz := 5) xB_197 dX11_undo_141 (sh_116 _ _ _) rfl (by first | omega | (simp only [sA_same, sA_s, ud_s, Int.reduceEq, if_true, if_false, ite_true, ite_false, ↓reduceIte, and_true, true_and, eq_self, Int.add_zero, Int.reduceAdd]; omega) | (simp (disch := omega) only [sA_same, sA_ne, ud_eq, ud_ne, Int.add_zero, Int.reduceAdd]; omega)) rfl ?_
        refine v_iastore (n := 143) (lz := 5) xB_197 dX11_undo_142 (sh_104 _ _ _) (by decide) rfl (by first | omega | (simp only [sA_same, sA_s, ud_s, Int.reduceEq, if_true, if_false, ite_true, ite_false, ↓reduceIte, and_true, true_and, eq_self, Int.add_zero, Int.reduceAdd]; omega) | (simp (disch := omega) only [sA_same, sA_ne, ud_eq, ud_ne, Int.add_zero, Int.reduceAdd]; omega)) rfl ?_
        (try simp (disch := omega) only [sA_same, sA_ne, sA_sA, sA_sr, sB_s, ud_eq, ud_ne, ud_ud, ud_sr, uB_s, Int.add_zero, Int.reduceAdd])
        refine v_aload_n (n := 144) xB_197 dX11_undo_143 rfl rfl ?_
        refine v_gf_s (n := 147) (kz := 36) xB_197 dX11_undo_144 xO_197 fl_11_120 fg_11_36 (sh_81 _ _ _) rfl st_81_36 rfl ?_
        refine v_iload_n (n := 148) xB_197 dX11_undo_147 rfl rfl ?_
        refine v_aload_n (n := 149) xB_197 dX11_undo_148 rfl rfl ?_
        refine v_gf_s (n := 152) (kz := 56) xB_197 dX11_undo_149 xO_197 fl_11_181 fg_11_56 (sh_81 _ _ _) rfl st_81_56 rfl ?_
        refine v_iload_n (n := 153) xB_197 dX11_undo_152 rfl rfl ?_
        refine v_iaload (n := 154) (lz := 5) xB_197 dX11_undo_153 (sh_117 _ _ _) rfl (by first | omega | (simp only [sA_same, sA_s, ud_s, Int.reduceEq, if_true, if_false, ite_true, ite_false, ↓reduceIte, and_true, true_and, eq_self, Int.add_zero, Int.reduceAdd]; omega) | (simp (disch := omega) only [sA_same, sA_ne, ud_eq, ud_ne, Int.add_zero, Int.reduceAdd]; omega)) rfl ?_
        refine v_iastore (n := 155) (lz := 5) xB_197 dX11_undo_154 (sh_105 _ _ _) (by decide) rfl (by first | omega | (simp only [sA_same, sA_s, ud_s, Int.reduceEq, if_true, if_false, ite_true, ite_false, ↓reduceIte, and_true, true_and, eq_self, Int.add_zero, Int.reduceAdd]; omega) | (simp (disch := omega) only [sA_same, sA_ne, ud_eq, ud_ne, Int.add_zero, Int.reduceAdd]; omega)) rfl ?_
        (try simp (disch := omega) only [sA_same, sA_ne, sA_sA, sA_sr, sB_s, ud_eq, ud_ne, ud_ud, ud_sr, uB_s, Int.add_zero, Int.reduceAdd])
        refine v_iinc1 (n := 158) xB_197 dX11_undo_155 rfl (by first | omega | (simp only [sA_same, sA_s, ud_s, Int.reduceEq, if_true, if_false, ite_true, ite_false, ↓reduceIte, and_true, true_and, eq_self, Int.add_zero, Int.reduceAdd]; omega) | (simp (disch := omega) only [sA_same, sA_ne, ud_eq, ud_ne, Int.add_zero, Int.reduceAdd]; omega)) rfl ?_
        refine v_goto (t := 90) xB_197 dX11_undo_158 (by decide) rfl ?_
        refine ih _ ?_
        (try simp (disch := omega) only [sA_same, sA_ne, sA_sA, sA_sr, sB_s, ud_eq, ud_ne, ud_ud, ud_sr, uB_s, Int.add_zero, Int.reduceAdd])
        exact ch_undo_90 rfl (by funext j'; simp only [ud_s, ivl]; (repeat' split) <;> first | rfl | omega | (exfalso; omega) | (congr 1; omega)) (by funext j'; simp only [ud_s, ivl]; (repeat' split) <;> first | rfl | omega | (exfalso; omega) | (congr 1; omega)) (by funext j'; simp only [ud_s, ivl]; (repeat' split) <;> first | rfl | omega | (exfalso; omega) | (congr 1; omega)) rfl rfl (by funext j'; simp only [ud_s, ivl]; (repeat' split) <;> first | rfl | omega | (exfalso; omega) | (congr 1; omega)) (by funext j'; simp only [ud_s, ivl]; (repeat' split) <;> first | rfl | omega | (exfalso; omega) | (congr 1; omega))
      · rw [ivl_0 (lo := 0) (hi := 0) (by omega), ivl_0 (lo := 0) (hi := 0) (by omega), ivl_0 (lo := 0) (hi := 0) (by omega), ivl_0 (lo := 0) (hi := 0) (by omega), ivl_0 (lo := 0) (hi := 0) (by omega)]
        rw [sA_x (a := 82) (by simp (disch := omega) only [sA_ne]), sA_x (a := 83) (by simp (disch := omega) only [sA_ne]), sA_x (a := 84) (by simp (disch := omega) only [sA_ne]), sA_x (a := 104) (by simp (disch := omega) only [sA_ne]), sA_x (a := 105) (by simp (disch := omega) only [sA_ne])]
    · intro k m' h1 h2 hm ih
      show V d 197 (52, ([some (.inr (.inr 81)), some (.inl (k))], ([], (m', (none, (dy, L)))))) Q
      subst hm
      have q1 := hb (by omega) k h1 h2
      refine v_iload_n (n := 53) xB_197 dX11_undo_52 rfl rfl ?_
      refine v_bipush (n := 55) xB_197 dX11_undo_53 ⟨by decide, by decide⟩ rfl ?_
      refine v_ic_ge_n (n := 58) xB_197 dX11_undo_55 (by decide) rfl (by first | omega | (simp only [sA_same, sA_s, ud_s, Int.reduceEq, if_true, if_false, ite_true, ite_false, ↓reduceIte, and_true, true_and, eq_self, Int.add_zero, Int.reduceAdd]; omega) | (simp (disch := omega) only [sA_same, sA_ne, ud_eq, ud_ne, Int.add_zero, Int.reduceAdd]; omega)) ?_
      refine v_aload_n (n := 59) xB_197 dX11_undo_58 rfl rfl ?_
      refine v_gf_s (n := 62) (kz := 23) xB_197 dX11_undo_59 xO_197 fl_11_81 fg_11_23 (sh_81 _ _ _) rfl st_81_23 rfl ?_
      refine v_iload_n (n := 63) xB_197 dX11_undo_62 rfl rfl ?_
      refine v_aload_n (n := 64) xB_197 dX11_undo_63 rfl rfl ?_
      refine v_gf_s (n := 67) (kz := 50) xB_197 dX11_undo_64 xO_197 fl_11_163 fg_11_50 (sh_81 _ _ _) rfl st_81_50 rfl ?_
      refine v_iload_n (n := 68) xB_197 dX11_undo_67 rfl rfl ?_
      refine v_iaload (n := 69) (lz := 24) xB_197 dX11_undo_68 (sh_111 _ _ _) rfl (by first | omega | (simp only [sA_same, sA_s, ud_s, Int.reduceEq, if_true, if_false, ite_true, ite_false, ↓reduceIte, and_true, true_and, eq_self, Int.add_zero, Int.reduceAdd]; omega) | (simp (disch := omega) only [sA_same, sA_ne, ud_eq, ud_ne, Int.add_zero, Int.reduceAdd]; omega)) rfl ?_
      refine v_iastore (n := 70) (lz := 24) xB_197 dX11_undo_69 (sh_96 _ _ _) (by decide) rfl (by first | omega | (simp only [sA_same, sA_s, ud_s, Int.reduceEq, if_true, if_false, ite_true, ite_false, ↓reduceIte, and_true, true_and, eq_self, Int.add_zero, Int.reduceAdd]; omega) | (simp (disch := omega) only [sA_same, sA_ne, ud_eq, ud_ne, Int.add_zero, Int.reduceAdd]; omega)) rfl ?_
      (try simp (disch := omega) only [sA_same, sA_ne, sA_sA, sA_sr, sB_s, ud_eq, ud_ne, ud_ud, ud_sr, uB_s, Int.add_zero, Int.reduceAdd])
      refine v_aload_n (n := 71) xB_197 dX11_undo_70 rfl rfl ?_
      refine v_gf_s (n := 74) (kz := 26) xB_197 dX11_undo_71 xO_197 fl_11_90 fg_11_26 (sh_81 _ _ _) rfl st_81_26 rfl ?_
      refine v_iload_n (n := 75) xB_197 dX11_undo_74 rfl rfl ?_
      refine v_aload_n (n := 76) xB_197 dX11_undo_75 rfl rfl ?_
      refine v_gf_s (n := 79) (kz := 62) xB_197 dX11_undo_76 xO_197 fl_11_199 fg_11_62 (sh_81 _ _ _) rfl st_81_62 rfl ?_
      refine v_iload_n (n := 80) xB_197 dX11_undo_79 rfl rfl ?_
      refine v_baload (n := 81) (lz := 24) xB_197 dX11_undo_80 (sh_123 _ _ _) rfl (by first | omega | (simp only [sA_same, sA_s, ud_s, Int.reduceEq, if_true, if_false, ite_true, ite_false, ↓reduceIte, and_true, true_and, eq_self, Int.add_zero, Int.reduceAdd]; omega) | (simp (disch := omega) only [sA_same, sA_ne, ud_eq, ud_ne, Int.add_zero, Int.reduceAdd]; omega)) rfl ?_
      refine v_bastore01 (n := 82) (lz := 24) xB_197 dX11_undo_81 (sh_99 _ _ _) (by decide) rfl (by first | omega | (simp only [sA_same, sA_s, ud_s, Int.reduceEq, if_true, if_false, ite_true, ite_false, ↓reduceIte, and_true, true_and, eq_self, Int.add_zero, Int.reduceAdd]; omega) | (simp (disch := omega) only [sA_same, sA_ne, ud_eq, ud_ne, Int.add_zero, Int.reduceAdd]; omega)) (by first | omega | (simp only [sA_same, sA_s, ud_s, Int.reduceEq, if_true, if_false, ite_true, ite_false, ↓reduceIte, and_true, true_and, eq_self, Int.add_zero, Int.reduceAdd]; omega) | (simp (disch := omega) only [sA_same, sA_ne, ud_eq, ud_ne, Int.add_zero, Int.reduceAdd]; omega)) rfl ?_
      (try simp (disch := omega) only [sA_same, sA_ne, sA_sA, sA_sr, sB_s, ud_eq, ud_ne, ud_ud, ud_sr, uB_s, Int.add_zero, Int.reduceAdd])
      refine v_iinc1 (n := 85) xB_197 dX11_undo_82 rfl (by first | omega | (simp only [sA_same, sA_s, ud_s, Int.reduceEq, if_true, if_false, ite_true, ite_false, ↓reduceIte, and_true, true_and, eq_self, Int.add_zero, Int.reduceAdd]; omega) | (simp (disch := omega) only [sA_same, sA_ne, ud_eq, ud_ne, Int.add_zero, Int.reduceAdd]; omega)) rfl ?_
      refine v_goto (t := 52) xB_197 dX11_undo_85 (by decide) rfl ?_
      refine ih _ ?_
      (try simp (disch := omega) only [sA_same, sA_ne, sA_sA, sA_sr, sB_s, ud_eq, ud_ne, ud_ud, ud_sr, uB_s, Int.add_zero, Int.reduceAdd])
      exact ch_undo_52 rfl (by funext j'; simp only [ud_s, ivl]; (repeat' split) <;> first | rfl | omega | (exfalso; omega) | (congr 1; omega)) (by funext j'; simp only [ud_s, ivl]; (repeat' split) <;> first | rfl | omega | (exfalso; omega) | (congr 1; omega))
    · rw [ivl_0 (lo := 0) (hi := 0) (by omega), ivl_0 (lo := 0) (hi := 0) (by omega)]
      rw [sA_x (a := 96) (by simp (disch := omega) only [sA_ne]), sA_x (a := 99) (by simp (disch := omega) only [sA_ne])]
  · (try simp (disch := omega) only [sA_same, sA_ne, sA_sA, sA_sr, sB_s, ud_eq, ud_ne, ud_ud, ud_sr, uB_s, Int.add_zero, Int.reduceAdd] at g1)
    refine v_bipush (n := 9) xB_197 dX11_undo_7 ⟨by decide, by decide⟩ rfl ?_
    refine v_ireturn0 xB_197 dX11_undo_9 xK_197 ?_
    exact o1 (by omega)
