/-! The reference: a run, its end. -/
theorem sA2g {m : PM} {f f' g g' : Int → Int} (h1 : f = f') (h2 : g = g') : setA (setA m 98 f) 101 g = setA (setA m 98 f') 101 g' := by rw [h1, h2]
theorem sA4 {m : PM} {f f' g g' h h' i i' : Int → Int} (h1 : f = f') (h2 : g = g') (h3 : h = h') (h4 : i = i') : setA (setA (setA (setA m 96 f) 98 g) 99 h) 101 i = setA (setA (setA (setA m 96 f') 98 g') 99 h') 101 i' := by rw [h1, h2, h3, h4]
set_option maxHeartbeats 4000000 in
theorem v_goEnd {d : Nat} {t j top low pg : Int} {m : PM} {dy : List (Nat × Nat)} {L : Nat} {Q : Option PV → PS → Prop} {x6 x7 x8 : Option PV} (hN : 0 ≤ m 81 22 ∧ m 81 22 ≤ 12) (hT : 0 ≤ m 81 29 ∧ m 81 29 ≤ m 81 22) (hlow : low = top + (m 81 22 - m 81 29) - 1) (h0 : 0 ≤ top ∧ top ≤ m 81 29) (b1 : bl (m 99)) (b2 : bl (m 100)) (b3 : bl (m 101)) (p1 : pgs (m 96)) (p2 : pgs (m 97)) (p3 : pgs (m 98)) (o1 : ∀ sd ns dn nd : Int → Int, bl dn → bl nd → pgs sd → pgs ns → (∀ s, 0 ≤ s → s < m 81 22 → pkA sd dn s = if s < m 81 22 - m 81 29 then pkA (m 96) (m 99) (top + s) else pkA (m 97) (m 100) (m 81 22 - 1 - s)) → Q none (setA (setA (setA (setA (m) 96 (sd)) 98 (ns)) 99 (dn)) 101 (nd), (none, (dy, L)))) : V d 168 (209, ([some (.inr (.inr 81)), some (.inl t), some (.inl j), some (.inl (top)), some (.inl (low)), some (.inl (pg)), x6, x7, x8], ([], (m, (none, (dy, L)))))) Q := by
  refine v_iconst (n := 210) xB_168 dX11_goRun_209 ⟨by decide, by decide⟩ rfl ?_
  refine v_istore6 (n := 212) xB_168 dX11_goRun_210 rfl rfl ?_
  refine v_iconst (n := 213) xB_168 dX11_goRun_212 ⟨by decide, by decide⟩ rfl ?_
  refine v_iload_n (n := 214) xB_168 dX11_goRun_213 rfl rfl ?_
  refine v_imul (n := 215) xB_168 dX11_goRun_214 (by first | omega | (simp only [sA_same, sA_s, ud_s, Int.reduceEq, if_true, if_false, ite_true, ite_false, ↓reduceIte, and_true, true_and, eq_self, Int.add_zero, Int.reduceAdd]; omega)) rfl ?_
  refine v_istore7 (n := 217) xB_168 dX11_goRun_215 rfl rfl ?_
  refine lp_up (F := fun (k : Int) (m' : PM) => ∀ z : Int, z = k - 2 * top → V d 168 (217, ([some (.inr (.inr 81)), some (.inl t), some (.inl j), some (.inl top), some (.inl low), some (.inl pg), some (.inl z), some (.inl (k)), x8], ([], (m', (none, (dy, L)))))) Q) (E := fun (k : Int) (m' : PM) => m' = setA (setA (m) 98 (ivl (fun x => m 96 (2 * top + x)) (m 98) 0 (k - 2 * top))) 101 (ivl (fun x => m 99 (2 * top + x)) (m 101) 0 (k - 2 * top))) (a := 2 * top) (b := 2 * low + 2) ?_ ?_ (2 * top) (_) (by first | omega | (simp only [sA_same, sA_s, ud_s, Int.reduceEq, if_true, if_false, ite_true, ite_false, ↓reduceIte, and_true, true_and, eq_self, Int.add_zero, Int.reduceAdd]; omega)) (by first | omega | (simp only [sA_same, sA_s, ud_s, Int.reduceEq, if_true, if_false, ite_true, ite_false, ↓reduceIte, and_true, true_and, eq_self, Int.add_zero, Int.reduceAdd]; omega)) ?_ _ (by omega)
  · intro m' hm  z hz
    show V d 168 (217, ([some (.inr (.inr 81)), some (.inl t), some (.inl j), some (.inl top), some (.inl low), some (.inl pg), some (.inl z), some (.inl (2 * low + 2)), x8], ([], (m', (none, (dy, L)))))) Q
    subst hm
    refine v_iload (n := 219) xB_168 dX11_goRun_217 rfl rfl ?_
    refine v_iconst (n := 220) xB_168 dX11_goRun_219 ⟨by decide, by decide⟩ rfl ?_
    refine v_iload (n := 222) xB_168 dX11_goRun_220 rfl rfl ?_
    refine v_imul (n := 223) xB_168 dX11_goRun_222 (by first | omega | (simp only [sA_same, sA_s, ud_s, Int.reduceEq, if_true, if_false, ite_true, ite_false, ↓reduceIte, and_true, true_and, eq_self, Int.add_zero, Int.reduceAdd]; omega)) rfl ?_
    refine v_iconst (n := 224) xB_168 dX11_goRun_223 ⟨by decide, by decide⟩ rfl ?_
    refine v_iadd (n := 225) xB_168 dX11_goRun_224 (by first | omega | (simp only [sA_same, sA_s, ud_s, Int.reduceEq, if_true, if_false, ite_true, ite_false, ↓reduceIte, and_true, true_and, eq_self, Int.add_zero, Int.reduceAdd]; omega)) rfl ?_
    refine v_ic_ge_y (t := 265) xB_168 dX11_goRun_225 (by decide) rfl (by first | omega | (simp only [sA_same, sA_s, ud_s, Int.reduceEq, if_true, if_false, ite_true, ite_false, ↓reduceIte, and_true, true_and, eq_self, Int.add_zero, Int.reduceAdd]; omega)) ?_
    refine v_aload_n (n := 266) xB_168 dX11_goRun_265 rfl rfl ?_
    refine v_gf_i (n := 269) (kz := 29) xB_168 dX11_goRun_266 xO_168 fl_11_99 fg_11_29 rfl (sh_81 _ _ _) rfl rfl ?_
    refine v_iconst (n := 270) xB_168 dX11_goRun_269 ⟨by decide, by decide⟩ rfl ?_
    refine v_isub (n := 271) xB_168 dX11_goRun_270 (by first | omega | (simp only [sA_same, sA_s, ud_s, Int.reduceEq, if_true, if_false, ite_true, ite_false, ↓reduceIte, and_true, true_and, eq_self, Int.add_zero, Int.reduceAdd]; omega)) rfl ?_
    refine v_istore7 (n := 273) xB_168 dX11_goRun_271 rfl rfl ?_
    refine lp_dn (F := fun (k : Int) (m' : PM) => ∀ x8 : Option PV, ∀ z : Int, z = 2 * (m 81 22 - m 81 29) + 2 * (m 81 29 - 1 - k) → V d 168 (273, ([some (.inr (.inr 81)), some (.inl t), some (.inl j), some (.inl top), some (.inl low), some (.inl pg), some (.inl z), some (.inl (k)), x8], ([], (m', (none, (dy, L)))))) Q) (E := fun (k : Int) (m' : PM) => m' = setA (setA (m) 98 (ivl (fun x => m 97 (2 * (m 81 22 - 1 - x / 2) + x % 2)) (ivl (fun x => m 96 (2 * top + x)) (m 98) 0 (2 * (m 81 22 - m 81 29))) (2 * (m 81 22 - m 81 29)) (2 * (m 81 22 - m 81 29) + 2 * (m 81 29 - 1 - (k))))) 101 (ivl (fun x => m 100 (2 * (m 81 22 - 1 - x / 2) + x % 2)) (ivl (fun x => m 99 (2 * top + x)) (m 101) 0 (2 * (m 81 22 - m 81 29))) (2 * (m 81 22 - m 81 29)) (2 * (m 81 22 - m 81 29) + 2 * (m 81 29 - 1 - (k))))) (a := -1) (b := m 81 29 - 1) ?_ ?_ (m 81 29 - 1) (_) (by first | omega | (simp only [sA_same, sA_s, ud_s, Int.reduceEq, if_true, if_false, ite_true, ite_false, ↓reduceIte, and_true, true_and, eq_self, Int.add_zero, Int.reduceAdd]; omega)) (by first | omega | (simp only [sA_same, sA_s, ud_s, Int.reduceEq, if_true, if_false, ite_true, ite_false, ↓reduceIte, and_true, true_and, eq_self, Int.add_zero, Int.reduceAdd]; omega)) ?_ _ _ (by omega)
    · intro m' hm x8 z hz
      show V d 168 (273, ([some (.inr (.inr 81)), some (.inl t), some (.inl j), some (.inl top), some (.inl low), some (.inl pg), some (.inl z), some (.inl (-1)), x8], ([], (m', (none, (dy, L)))))) Q
      subst hm
      refine v_iload (n := 275) xB_168 dX11_goRun_273 rfl rfl ?_
      refine v_if_lt_y (t := 340) xB_168 dX11_goRun_275 (by decide) rfl (by first | omega | (simp only [sA_same, sA_s, ud_s, Int.reduceEq, if_true, if_false, ite_true, ite_false, ↓reduceIte, and_true, true_and, eq_self, Int.add_zero, Int.reduceAdd]; omega)) ?_
      refine v_iconst (n := 341) xB_168 dX11_goRun_340 ⟨by decide, by decide⟩ rfl ?_
      refine v_istore7 (n := 343) xB_168 dX11_goRun_341 rfl rfl ?_
      rw [show m 81 29 - 1 - -1 = m 81 29 by omega]
      refine lp_up (F := fun (k : Int) (m' : PM) => ∀ x8 : Option PV, ∀ z : Int, z = 2 * m 81 22 → V d 168 (343, ([some (.inr (.inr 81)), some (.inl t), some (.inl j), some (.inl top), some (.inl low), some (.inl pg), some (.inl z), some (.inl (k)), x8], ([], (m', (none, (dy, L)))))) Q) (E := fun (k : Int) (m' : PM) => m' = setA (setA (setA (setA (m) 96 (ivl (ivl (fun x => m 97 (2 * (m 81 22 - 1 - x / 2) + x % 2)) (ivl (fun x => m 96 (2 * top + x)) (m 98) 0 (2 * (m 81 22 - m 81 29))) (2 * (m 81 22 - m 81 29)) (2 * (m 81 22 - m 81 29) + 2 * (m 81 29))) (m 96) 0 (k))) 98 (ivl (fun x => m 97 (2 * (m 81 22 - 1 - x / 2) + x % 2)) (ivl (fun x => m 96 (2 * top + x)) (m 98) 0 (2 * (m 81 22 - m 81 29))) (2 * (m 81 22 - m 81 29)) (2 * (m 81 22 - m 81 29) + 2 * (m 81 29)))) 99 (ivl (ivl (fun x => m 100 (2 * (m 81 22 - 1 - x / 2) + x % 2)) (ivl (fun x => m 99 (2 * top + x)) (m 101) 0 (2 * (m 81 22 - m 81 29))) (2 * (m 81 22 - m 81 29)) (2 * (m 81 22 - m 81 29) + 2 * (m 81 29))) (m 99) 0 (k))) 101 (ivl (fun x => m 100 (2 * (m 81 22 - 1 - x / 2) + x % 2)) (ivl (fun x => m 99 (2 * top + x)) (m 101) 0 (2 * (m 81 22 - m 81 29))) (2 * (m 81 22 - m 81 29)) (2 * (m 81 22 - m 81 29) + 2 * (m 81 29)))) (a := 0) (b := 2 * m 81 22) ?_ ?_ (0) (_) (by first | omega | (simp only [sA_same, sA_s, ud_s, Int.reduceEq, if_true, if_false, ite_true, ite_false, ↓reduceIte, and_true, true_and, eq_self, Int.add_zero, Int.reduceAdd]; omega)) (by first | omega | (simp only [sA_same, sA_s, ud_s, Int.reduceEq, if_true, if_false, ite_true, ite_false, ↓reduceIte, and_true, true_and, eq_self, Int.add_zero, Int.reduceAdd]; omega)) ?_ _ _ (by omega)
      · intro m' hm x8 z hz
        show V d 168 (343, ([some (.inr (.inr 81)), some (.inl t), some (.inl j), some (.inl top), some (.inl low), some (.inl pg), some (.inl z), some (.inl (2 * m 81 22)), x8], ([], (m', (none, (dy, L)))))) Q
        subst hm
        refine v_iload (n := 345) xB_168 dX11_goRun_343 rfl rfl ?_
        refine v_iload (n := 347) xB_168 dX11_goRun_345 rfl rfl ?_
        refine v_ic_ge_y (t := 384) xB_168 dX11_goRun_347 (by decide) rfl (by first | omega | (simp only [sA_same, sA_s, ud_s, Int.reduceEq, if_true, if_false, ite_true, ite_false, ↓reduceIte, and_true, true_and, eq_self, Int.add_zero, Int.reduceAdd]; omega)) ?_
        refine v_return xB_168 dX11_goRun_384 xK_168 ?_
        refine o1 _ _ _ _ (bl_ivl (bl_ivl (fun _ => b2 _) (bl_ivl (fun _ => b1 _) b3 _ _) _ _) b1 _ _) (bl_ivl (fun _ => b2 _) (bl_ivl (fun _ => b1 _) b3 _ _) _ _) (pgs_ivl (pgs_ivl (fun _ => p2 _) (pgs_ivl (fun _ => p1 _) p3 _ _) _ _) p1 _ _) (pgs_ivl (fun _ => p2 _) (pgs_ivl (fun _ => p1 _) p3 _ _) _ _) (fun s h1 h2 => ?_)
        rw [pkA_s, pkA_s, pkA_s]
        by_cases hs : s < m 81 22 - m 81 29
        · rw [if_pos hs]
          simp (disch := omega) only [ivl_in, ivl_lo, ivl_hi]
          congr 2 <;> omega
        · rw [if_neg hs]
          simp (disch := omega) only [ivl_in, ivl_lo, ivl_hi]
          congr 2 <;> omega
      · intro k m' h1 h2 hm ih x8 z hz
        show V d 168 (343, ([some (.inr (.inr 81)), some (.inl t), some (.inl j), some (.inl top), some (.inl low), some (.inl pg), some (.inl z), some (.inl (k)), x8], ([], (m', (none, (dy, L)))))) Q
        subst hm
        have r1 : (ivl (fun x => m 100 (2 * (m 81 22 - 1 - x / 2) + x % 2)) (ivl (fun x => m 99 (2 * top + x)) (m 101) 0 (2 * (m 81 22 - m 81 29))) (2 * (m 81 22 - m 81 29)) (2 * (m 81 22 - m 81 29) + 2 * (m 81 29))) k = 0 ∨ (ivl (fun x => m 100 (2 * (m 81 22 - 1 - x / 2) + x % 2)) (ivl (fun x => m 99 (2 * top + x)) (m 101) 0 (2 * (m 81 22 - m 81 29))) (2 * (m 81 22 - m 81 29)) (2 * (m 81 22 - m 81 29) + 2 * (m 81 29))) k = 1 := (bl_ivl (fun _ => b2 _) (bl_ivl (fun _ => b1 _) b3 _ _) _ _) k
        refine v_iload (n := 345) xB_168 dX11_goRun_343 rfl rfl ?_
        refine v_iload (n := 347) xB_168 dX11_goRun_345 rfl rfl ?_
        refine v_ic_ge_n (n := 350) xB_168 dX11_goRun_347 (by decide) rfl (by first | omega | (simp only [sA_same, sA_s, ud_s, Int.reduceEq, if_true, if_false, ite_true, ite_false, ↓reduceIte, and_true, true_and, eq_self, Int.add_zero, Int.reduceAdd]; omega)) ?_
        refine v_aload_n (n := 351) xB_168 dX11_goRun_350 rfl rfl ?_
        refine v_gf_s (n := 354) (kz := 23) xB_168 dX11_goRun_351 xO_168 fl_11_81 fg_11_23 (sh_81 _ _ _) rfl st_81_23 rfl ?_
        refine v_iload (n := 356) xB_168 dX11_goRun_354 rfl rfl ?_
        refine v_aload_n (n := 357) xB_168 dX11_goRun_356 rfl rfl ?_
        refine v_gf_s (n := 360) (kz := 25) xB_168 dX11_goRun_357 xO_168 fl_11_87 fg_11_25 (sh_81 _ _ _) rfl st_81_25 rfl ?_
        refine v_iload (n := 362) xB_168 dX11_goRun_360 rfl rfl ?_
        refine v_iaload (n := 363) (lz := 24) xB_168 dX11_goRun_362 (sh_98 _ _ _) rfl (by first | omega | (simp only [sA_same, sA_s, ud_s, Int.reduceEq, if_true, if_false, ite_true, ite_false, ↓reduceIte, and_true, true_and, eq_self, Int.add_zero, Int.reduceAdd]; omega)) rfl ?_
        refine v_iastore (n := 364) (lz := 24) xB_168 dX11_goRun_363 (sh_96 _ _ _) (by decide) rfl (by first | omega | (simp only [sA_same, sA_s, ud_s, Int.reduceEq, if_true, if_false, ite_true, ite_false, ↓reduceIte, and_true, true_and, eq_self, Int.add_zero, Int.reduceAdd]; omega)) rfl ?_
        (try simp (disch := omega) only [sA_same, sA_ne, sA_sA, sA_sr, sB_s, ud_eq, ud_ne, ud_ud, ud_sr, uB_s, Int.add_zero, Int.reduceAdd])
        refine v_aload_n (n := 365) xB_168 dX11_goRun_364 rfl rfl ?_
        refine v_gf_s (n := 368) (kz := 26) xB_168 dX11_goRun_365 xO_168 fl_11_90 fg_11_26 (sh_81 _ _ _) rfl st_81_26 rfl ?_
        refine v_iload (n := 370) xB_168 dX11_goRun_368 rfl rfl ?_
        refine v_aload_n (n := 371) xB_168 dX11_goRun_370 rfl rfl ?_
        refine v_gf_s (n := 374) (kz := 28) xB_168 dX11_goRun_371 xO_168 fl_11_96 fg_11_28 (sh_81 _ _ _) rfl st_81_28 rfl ?_
        refine v_iload (n := 376) xB_168 dX11_goRun_374 rfl rfl ?_
        refine v_baload (n := 377) (lz := 24) xB_168 dX11_goRun_376 (sh_101 _ _ _) rfl (by first | omega | (simp only [sA_same, sA_s, ud_s, Int.reduceEq, if_true, if_false, ite_true, ite_false, ↓reduceIte, and_true, true_and, eq_self, Int.add_zero, Int.reduceAdd]; omega)) rfl ?_
        refine v_bastore01 (n := 378) (lz := 24) xB_168 dX11_goRun_377 (sh_99 _ _ _) (by decide) rfl (by first | omega | (simp only [sA_same, sA_s, ud_s, Int.reduceEq, if_true, if_false, ite_true, ite_false, ↓reduceIte, and_true, true_and, eq_self, Int.add_zero, Int.reduceAdd]; omega)) (by first | omega | (simp only [sA_same, sA_s, ud_s, Int.reduceEq, if_true, if_false, ite_true, ite_false, ↓reduceIte, and_true, true_and, eq_self, Int.add_zero, Int.reduceAdd]; omega)) rfl ?_
        (try simp (disch := omega) only [sA_same, sA_ne, sA_sA, sA_sr, sB_s, ud_eq, ud_ne, ud_ud, ud_sr, uB_s, Int.add_zero, Int.reduceAdd])
        refine v_iinc7 (n := 381) xB_168 dX11_goRun_378 rfl (by first | omega | (simp only [sA_same, sA_s, ud_s, Int.reduceEq, if_true, if_false, ite_true, ite_false, ↓reduceIte, and_true, true_and, eq_self, Int.add_zero, Int.reduceAdd]; omega)) rfl ?_
        refine v_goto (t := 343) xB_168 dX11_goRun_381 (by decide) rfl ?_
        refine ih _ ?_ _ _ (by omega)
        (try simp (disch := omega) only [sA_same, sA_ne, sA_sA, sA_sr, sB_s, ud_eq, ud_ne, ud_ud, ud_sr, uB_s, Int.add_zero, Int.reduceAdd])
        exact sA4 (by funext j'; simp only [ud_s, ivl, sA_same, sA_s, Int.reduceEq, if_true, if_false, ↓reduceIte]; (repeat' split) <;> first | rfl | omega | (congr 1; omega)) rfl (by funext j'; simp only [ud_s, ivl, sA_same, sA_s, Int.reduceEq, if_true, if_false, ↓reduceIte]; (repeat' split) <;> first | rfl | omega | (congr 1; omega)) rfl
      · rw [ivl_0 (lo := 0) (hi := 0) (by omega), ivl_0 (lo := 0) (hi := 0) (by omega)]
        funext a; simp only [sA_s]; (repeat' split) <;> first | rfl | omega | (subst_vars; rfl)
    · intro k m' h1 h2 hm ih x8 z hz
      show V d 168 (273, ([some (.inr (.inr 81)), some (.inl t), some (.inl j), some (.inl top), some (.inl low), some (.inl pg), some (.inl z), some (.inl (k)), x8], ([], (m', (none, (dy, L)))))) Q
      subst hm
      have r1 := b2 (2 * k)
      have r2 := b2 (2 * k + 1)
      refine v_iload (n := 275) xB_168 dX11_goRun_273 rfl rfl ?_
      refine v_if_lt_n (n := 278) xB_168 dX11_goRun_275 (by decide) rfl (by first | omega | (simp only [sA_same, sA_s, ud_s, Int.reduceEq, if_true, if_false, ite_true, ite_false, ↓reduceIte, and_true, true_and, eq_self, Int.add_zero, Int.reduceAdd]; omega)) ?_
      refine v_iconst (n := 279) xB_168 dX11_goRun_278 ⟨by decide, by decide⟩ rfl ?_
      refine v_istore8 (n := 281) xB_168 dX11_goRun_279 rfl rfl ?_
      refine v_iload (n := 283) xB_168 dX11_goRun_281 rfl rfl ?_
      refine v_iconst (n := 284) xB_168 dX11_goRun_283 ⟨by decide, by decide⟩ rfl ?_
      refine v_ic_ge_n (n := 287) xB_168 dX11_goRun_284 (by decide) rfl (by decide) ?_
      refine v_aload_n (n := 288) xB_168 dX11_goRun_287 rfl rfl ?_
      refine v_gf_s (n := 291) (kz := 25) xB_168 dX11_goRun_288 xO_168 fl_11_87 fg_11_25 (sh_81 _ _ _) rfl st_81_25 rfl ?_
      refine v_iload (n := 293) xB_168 dX11_goRun_291 rfl rfl ?_
      refine v_aload_n (n := 294) xB_168 dX11_goRun_293 rfl rfl ?_
      refine v_gf_s (n := 297) (kz := 24) xB_168 dX11_goRun_294 xO_168 fl_11_84 fg_11_24 (sh_81 _ _ _) rfl st_81_24 rfl ?_
      refine v_iconst (n := 298) xB_168 dX11_goRun_297 ⟨by decide, by decide⟩ rfl ?_
      refine v_iload (n := 300) xB_168 dX11_goRun_298 rfl rfl ?_
      refine v_imul (n := 301) xB_168 dX11_goRun_300 (by first | omega | (simp only [sA_same, sA_s, ud_s, Int.reduceEq, if_true, if_false, ite_true, ite_false, ↓reduceIte, and_true, true_and, eq_self, Int.add_zero, Int.reduceAdd]; omega)) rfl ?_
      refine v_iload (n := 303) xB_168 dX11_goRun_301 rfl rfl ?_
      refine v_iadd (n := 304) xB_168 dX11_goRun_303 (by first | omega | (simp only [sA_same, sA_s, ud_s, Int.reduceEq, if_true, if_false, ite_true, ite_false, ↓reduceIte, and_true, true_and, eq_self, Int.add_zero, Int.reduceAdd]; omega)) rfl ?_
      refine v_iaload (n := 305) (lz := 24) xB_168 dX11_goRun_304 (sh_97 _ _ _) rfl (by first | omega | (simp only [sA_same, sA_s, ud_s, Int.reduceEq, if_true, if_false, ite_true, ite_false, ↓reduceIte, and_true, true_and, eq_self, Int.add_zero, Int.reduceAdd]; omega)) rfl ?_
      refine v_iastore (n := 306) (lz := 24) xB_168 dX11_goRun_305 (sh_98 _ _ _) (by decide) rfl (by first | omega | (simp only [sA_same, sA_s, ud_s, Int.reduceEq, if_true, if_false, ite_true, ite_false, ↓reduceIte, and_true, true_and, eq_self, Int.add_zero, Int.reduceAdd]; omega)) rfl ?_
      (try simp (disch := omega) only [sA_same, sA_ne, sA_sA, sA_sr, sB_s, ud_eq, ud_ne, ud_ud, ud_sr, uB_s, Int.add_zero, Int.reduceAdd])
      refine v_aload_n (n := 307) xB_168 dX11_goRun_306 rfl rfl ?_
      refine v_gf_s (n := 310) (kz := 28) xB_168 dX11_goRun_307 xO_168 fl_11_96 fg_11_28 (sh_81 _ _ _) rfl st_81_28 rfl ?_
      refine v_iload (n := 312) xB_168 dX11_goRun_310 rfl rfl ?_
      refine v_aload_n (n := 313) xB_168 dX11_goRun_312 rfl rfl ?_
      refine v_gf_s (n := 316) (kz := 27) xB_168 dX11_goRun_313 xO_168 fl_11_93 fg_11_27 (sh_81 _ _ _) rfl st_81_27 rfl ?_
      refine v_iconst (n := 317) xB_168 dX11_goRun_316 ⟨by decide, by decide⟩ rfl ?_
      refine v_iload (n := 319) xB_168 dX11_goRun_317 rfl rfl ?_
      refine v_imul (n := 320) xB_168 dX11_goRun_319 (by first | omega | (simp only [sA_same, sA_s, ud_s, Int.reduceEq, if_true, if_false, ite_true, ite_false, ↓reduceIte, and_true, true_and, eq_self, Int.add_zero, Int.reduceAdd]; omega)) rfl ?_
      refine v_iload (n := 322) xB_168 dX11_goRun_320 rfl rfl ?_
      refine v_iadd (n := 323) xB_168 dX11_goRun_322 (by first | omega | (simp only [sA_same, sA_s, ud_s, Int.reduceEq, if_true, if_false, ite_true, ite_false, ↓reduceIte, and_true, true_and, eq_self, Int.add_zero, Int.reduceAdd]; omega)) rfl ?_
      refine v_baload (n := 324) (lz := 24) xB_168 dX11_goRun_323 (sh_100 _ _ _) rfl (by first | omega | (simp only [sA_same, sA_s, ud_s, Int.reduceEq, if_true, if_false, ite_true, ite_false, ↓reduceIte, and_true, true_and, eq_self, Int.add_zero, Int.reduceAdd]; omega)) rfl ?_
      refine v_bastore01 (n := 325) (lz := 24) xB_168 dX11_goRun_324 (sh_101 _ _ _) (by decide) rfl (by first | omega | (simp only [sA_same, sA_s, ud_s, Int.reduceEq, if_true, if_false, ite_true, ite_false, ↓reduceIte, and_true, true_and, eq_self, Int.add_zero, Int.reduceAdd]; omega)) (by first | omega | (simp only [sA_same, sA_s, ud_s, Int.reduceEq, if_true, if_false, ite_true, ite_false, ↓reduceIte, and_true, true_and, eq_self, Int.add_zero, Int.reduceAdd]; omega)) rfl ?_
      (try simp (disch := omega) only [sA_same, sA_ne, sA_sA, sA_sr, sB_s, ud_eq, ud_ne, ud_ud, ud_sr, uB_s, Int.add_zero, Int.reduceAdd])
      refine v_iinc6 (n := 328) xB_168 dX11_goRun_325 rfl (by first | omega | (simp only [sA_same, sA_s, ud_s, Int.reduceEq, if_true, if_false, ite_true, ite_false, ↓reduceIte, and_true, true_and, eq_self, Int.add_zero, Int.reduceAdd]; omega)) rfl ?_
      refine v_iinc8 (n := 331) xB_168 dX11_goRun_328 rfl (by first | omega | (simp only [sA_same, sA_s, ud_s, Int.reduceEq, if_true, if_false, ite_true, ite_false, ↓reduceIte, and_true, true_and, eq_self, Int.add_zero, Int.reduceAdd]; omega)) rfl ?_
      refine v_goto (t := 281) xB_168 dX11_goRun_331 (by decide) rfl ?_
      refine v_iload (n := 283) xB_168 dX11_goRun_281 rfl rfl ?_
      refine v_iconst (n := 284) xB_168 dX11_goRun_283 ⟨by decide, by decide⟩ rfl ?_
      refine v_ic_ge_n (n := 287) xB_168 dX11_goRun_284 (by decide) rfl (by decide) ?_
      refine v_aload_n (n := 288) xB_168 dX11_goRun_287 rfl rfl ?_
      refine v_gf_s (n := 291) (kz := 25) xB_168 dX11_goRun_288 xO_168 fl_11_87 fg_11_25 (sh_81 _ _ _) rfl st_81_25 rfl ?_
      refine v_iload (n := 293) xB_168 dX11_goRun_291 rfl rfl ?_
      refine v_aload_n (n := 294) xB_168 dX11_goRun_293 rfl rfl ?_
      refine v_gf_s (n := 297) (kz := 24) xB_168 dX11_goRun_294 xO_168 fl_11_84 fg_11_24 (sh_81 _ _ _) rfl st_81_24 rfl ?_
      refine v_iconst (n := 298) xB_168 dX11_goRun_297 ⟨by decide, by decide⟩ rfl ?_
      refine v_iload (n := 300) xB_168 dX11_goRun_298 rfl rfl ?_
      refine v_imul (n := 301) xB_168 dX11_goRun_300 (by first | omega | (simp only [sA_same, sA_s, ud_s, Int.reduceEq, if_true, if_false, ite_true, ite_false, ↓reduceIte, and_true, true_and, eq_self, Int.add_zero, Int.reduceAdd]; omega)) rfl ?_
      refine v_iload (n := 303) xB_168 dX11_goRun_301 rfl rfl ?_
      refine v_iadd (n := 304) xB_168 dX11_goRun_303 (by first | omega | (simp only [sA_same, sA_s, ud_s, Int.reduceEq, if_true, if_false, ite_true, ite_false, ↓reduceIte, and_true, true_and, eq_self, Int.add_zero, Int.reduceAdd]; omega)) rfl ?_
      refine v_iaload (n := 305) (lz := 24) xB_168 dX11_goRun_304 (sh_97 _ _ _) rfl (by first | omega | (simp only [sA_same, sA_s, ud_s, Int.reduceEq, if_true, if_false, ite_true, ite_false, ↓reduceIte, and_true, true_and, eq_self, Int.add_zero, Int.reduceAdd]; omega)) rfl ?_
      refine v_iastore (n := 306) (lz := 24) xB_168 dX11_goRun_305 (sh_98 _ _ _) (by decide) rfl (by first | omega | (simp only [sA_same, sA_s, ud_s, Int.reduceEq, if_true, if_false, ite_true, ite_false, ↓reduceIte, and_true, true_and, eq_self, Int.add_zero, Int.reduceAdd]; omega)) rfl ?_
      (try simp (disch := omega) only [sA_same, sA_ne, sA_sA, sA_sr, sB_s, ud_eq, ud_ne, ud_ud, ud_sr, uB_s, Int.add_zero, Int.reduceAdd])
      refine v_aload_n (n := 307) xB_168 dX11_goRun_306 rfl rfl ?_
      refine v_gf_s (n := 310) (kz := 28) xB_168 dX11_goRun_307 xO_168 fl_11_96 fg_11_28 (sh_81 _ _ _) rfl st_81_28 rfl ?_
      refine v_iload (n := 312) xB_168 dX11_goRun_310 rfl rfl ?_
      refine v_aload_n (n := 313) xB_168 dX11_goRun_312 rfl rfl ?_
      refine v_gf_s (n := 316) (kz := 27) xB_168 dX11_goRun_313 xO_168 fl_11_93 fg_11_27 (sh_81 _ _ _) rfl st_81_27 rfl ?_
      refine v_iconst (n := 317) xB_168 dX11_goRun_316 ⟨by decide, by decide⟩ rfl ?_
      refine v_iload (n := 319) xB_168 dX11_goRun_317 rfl rfl ?_
      refine v_imul (n := 320) xB_168 dX11_goRun_319 (by first | omega | (simp only [sA_same, sA_s, ud_s, Int.reduceEq, if_true, if_false, ite_true, ite_false, ↓reduceIte, and_true, true_and, eq_self, Int.add_zero, Int.reduceAdd]; omega)) rfl ?_
      refine v_iload (n := 322) xB_168 dX11_goRun_320 rfl rfl ?_
      refine v_iadd (n := 323) xB_168 dX11_goRun_322 (by first | omega | (simp only [sA_same, sA_s, ud_s, Int.reduceEq, if_true, if_false, ite_true, ite_false, ↓reduceIte, and_true, true_and, eq_self, Int.add_zero, Int.reduceAdd]; omega)) rfl ?_
      refine v_baload (n := 324) (lz := 24) xB_168 dX11_goRun_323 (sh_100 _ _ _) rfl (by first | omega | (simp only [sA_same, sA_s, ud_s, Int.reduceEq, if_true, if_false, ite_true, ite_false, ↓reduceIte, and_true, true_and, eq_self, Int.add_zero, Int.reduceAdd]; omega)) rfl ?_
      refine v_bastore01 (n := 325) (lz := 24) xB_168 dX11_goRun_324 (sh_101 _ _ _) (by decide) rfl (by first | omega | (simp only [sA_same, sA_s, ud_s, Int.reduceEq, if_true, if_false, ite_true, ite_false, ↓reduceIte, and_true, true_and, eq_self, Int.add_zero, Int.reduceAdd]; omega)) (by first | omega | (simp only [sA_same, sA_s, ud_s, Int.reduceEq, if_true, if_false, ite_true, ite_false, ↓reduceIte, and_true, true_and, eq_self, Int.add_zero, Int.reduceAdd]; omega)) rfl ?_
      (try simp (disch := omega) only [sA_same, sA_ne, sA_sA, sA_sr, sB_s, ud_eq, ud_ne, ud_ud, ud_sr, uB_s, Int.add_zero, Int.reduceAdd])
      refine v_iinc6 (n := 328) xB_168 dX11_goRun_325 rfl (by first | omega | (simp only [sA_same, sA_s, ud_s, Int.reduceEq, if_true, if_false, ite_true, ite_false, ↓reduceIte, and_true, true_and, eq_self, Int.add_zero, Int.reduceAdd]; omega)) rfl ?_
      refine v_iinc8 (n := 331) xB_168 dX11_goRun_328 rfl (by first | omega | (simp only [sA_same, sA_s, ud_s, Int.reduceEq, if_true, if_false, ite_true, ite_false, ↓reduceIte, and_true, true_and, eq_self, Int.add_zero, Int.reduceAdd]; omega)) rfl ?_
      refine v_goto (t := 281) xB_168 dX11_goRun_331 (by decide) rfl ?_
      refine v_iload (n := 283) xB_168 dX11_goRun_281 rfl rfl ?_
      refine v_iconst (n := 284) xB_168 dX11_goRun_283 ⟨by decide, by decide⟩ rfl ?_
      refine v_ic_ge_y (t := 334) xB_168 dX11_goRun_284 (by decide) rfl (by decide) ?_
      refine v_iinc7 (n := 337) xB_168 dX11_goRun_334 rfl (by first | omega | (simp only [sA_same, sA_s, ud_s, Int.reduceEq, if_true, if_false, ite_true, ite_false, ↓reduceIte, and_true, true_and, eq_self, Int.add_zero, Int.reduceAdd]; omega)) rfl ?_
      refine v_goto (t := 273) xB_168 dX11_goRun_337 (by decide) rfl ?_
      refine ih _ ?_ _ _ (by omega)
      (try simp (disch := omega) only [sA_same, sA_ne, sA_sA, sA_sr, sB_s, ud_eq, ud_ne, ud_ud, ud_sr, uB_s, Int.add_zero, Int.reduceAdd])
      subst hz
      exact sA2g (by funext j'; simp only [ud_s, ivl, sA_same, sA_s, Int.reduceEq, if_true, if_false, ↓reduceIte]; (repeat' split) <;> first | rfl | omega | (congr 1; omega)) (by funext j'; simp only [ud_s, ivl, sA_same, sA_s, Int.reduceEq, if_true, if_false, ↓reduceIte]; (repeat' split) <;> first | rfl | omega | (congr 1; omega))
    · exact sA2g (by funext j'; simp only [ud_s, ivl, sA_same, sA_s, Int.reduceEq, if_true, if_false, ↓reduceIte]; (repeat' split) <;> first | rfl | omega | (congr 1; omega)) (by funext j'; simp only [ud_s, ivl, sA_same, sA_s, Int.reduceEq, if_true, if_false, ↓reduceIte]; (repeat' split) <;> first | rfl | omega | (congr 1; omega))
  · intro k m' h1 h2 hm ih  z hz
    show V d 168 (217, ([some (.inr (.inr 81)), some (.inl t), some (.inl j), some (.inl top), some (.inl low), some (.inl pg), some (.inl z), some (.inl (k)), x8], ([], (m', (none, (dy, L)))))) Q
    subst hm
    have r1 := b1 k
    refine v_iload (n := 219) xB_168 dX11_goRun_217 rfl rfl ?_
    refine v_iconst (n := 220) xB_168 dX11_goRun_219 ⟨by decide, by decide⟩ rfl ?_
    refine v_iload (n := 222) xB_168 dX11_goRun_220 rfl rfl ?_
    refine v_imul (n := 223) xB_168 dX11_goRun_222 (by first | omega | (simp only [sA_same, sA_s, ud_s, Int.reduceEq, if_true, if_false, ite_true, ite_false, ↓reduceIte, and_true, true_and, eq_self, Int.add_zero, Int.reduceAdd]; omega)) rfl ?_
    refine v_iconst (n := 224) xB_168 dX11_goRun_223 ⟨by decide, by decide⟩ rfl ?_
    refine v_iadd (n := 225) xB_168 dX11_goRun_224 (by first | omega | (simp only [sA_same, sA_s, ud_s, Int.reduceEq, if_true, if_false, ite_true, ite_false, ↓reduceIte, and_true, true_and, eq_self, Int.add_zero, Int.reduceAdd]; omega)) rfl ?_
    refine v_ic_ge_n (n := 228) xB_168 dX11_goRun_225 (by decide) rfl (by first | omega | (simp only [sA_same, sA_s, ud_s, Int.reduceEq, if_true, if_false, ite_true, ite_false, ↓reduceIte, and_true, true_and, eq_self, Int.add_zero, Int.reduceAdd]; omega)) ?_
    refine v_aload_n (n := 229) xB_168 dX11_goRun_228 rfl rfl ?_
    refine v_gf_s (n := 232) (kz := 25) xB_168 dX11_goRun_229 xO_168 fl_11_87 fg_11_25 (sh_81 _ _ _) rfl st_81_25 rfl ?_
    refine v_iload (n := 234) xB_168 dX11_goRun_232 rfl rfl ?_
    refine v_aload_n (n := 235) xB_168 dX11_goRun_234 rfl rfl ?_
    refine v_gf_s (n := 238) (kz := 23) xB_168 dX11_goRun_235 xO_168 fl_11_81 fg_11_23 (sh_81 _ _ _) rfl st_81_23 rfl ?_
    refine v_iload (n := 240) xB_168 dX11_goRun_238 rfl rfl ?_
    refine v_iaload (n := 241) (lz := 24) xB_168 dX11_goRun_240 (sh_96 _ _ _) rfl (by first | omega | (simp only [sA_same, sA_s, ud_s, Int.reduceEq, if_true, if_false, ite_true, ite_false, ↓reduceIte, and_true, true_and, eq_self, Int.add_zero, Int.reduceAdd]; omega)) rfl ?_
    refine v_iastore (n := 242) (lz := 24) xB_168 dX11_goRun_241 (sh_98 _ _ _) (by decide) rfl (by first | omega | (simp only [sA_same, sA_s, ud_s, Int.reduceEq, if_true, if_false, ite_true, ite_false, ↓reduceIte, and_true, true_and, eq_self, Int.add_zero, Int.reduceAdd]; omega)) rfl ?_
    (try simp (disch := omega) only [sA_same, sA_ne, sA_sA, sA_sr, sB_s, ud_eq, ud_ne, ud_ud, ud_sr, uB_s, Int.add_zero, Int.reduceAdd])
    refine v_aload_n (n := 243) xB_168 dX11_goRun_242 rfl rfl ?_
    refine v_gf_s (n := 246) (kz := 28) xB_168 dX11_goRun_243 xO_168 fl_11_96 fg_11_28 (sh_81 _ _ _) rfl st_81_28 rfl ?_
    refine v_iload (n := 248) xB_168 dX11_goRun_246 rfl rfl ?_
    refine v_aload_n (n := 249) xB_168 dX11_goRun_248 rfl rfl ?_
    refine v_gf_s (n := 252) (kz := 26) xB_168 dX11_goRun_249 xO_168 fl_11_90 fg_11_26 (sh_81 _ _ _) rfl st_81_26 rfl ?_
    refine v_iload (n := 254) xB_168 dX11_goRun_252 rfl rfl ?_
    refine v_baload (n := 255) (lz := 24) xB_168 dX11_goRun_254 (sh_99 _ _ _) rfl (by first | omega | (simp only [sA_same, sA_s, ud_s, Int.reduceEq, if_true, if_false, ite_true, ite_false, ↓reduceIte, and_true, true_and, eq_self, Int.add_zero, Int.reduceAdd]; omega)) rfl ?_
    refine v_bastore01 (n := 256) (lz := 24) xB_168 dX11_goRun_255 (sh_101 _ _ _) (by decide) rfl (by first | omega | (simp only [sA_same, sA_s, ud_s, Int.reduceEq, if_true, if_false, ite_true, ite_false, ↓reduceIte, and_true, true_and, eq_self, Int.add_zero, Int.reduceAdd]; omega)) (by first | omega | (simp only [sA_same, sA_s, ud_s, Int.reduceEq, if_true, if_false, ite_true, ite_false, ↓reduceIte, and_true, true_and, eq_self, Int.add_zero, Int.reduceAdd]; omega)) rfl ?_
    (try simp (disch := omega) only [sA_same, sA_ne, sA_sA, sA_sr, sB_s, ud_eq, ud_ne, ud_ud, ud_sr, uB_s, Int.add_zero, Int.reduceAdd])
    refine v_iinc6 (n := 259) xB_168 dX11_goRun_256 rfl (by first | omega | (simp only [sA_same, sA_s, ud_s, Int.reduceEq, if_true, if_false, ite_true, ite_false, ↓reduceIte, and_true, true_and, eq_self, Int.add_zero, Int.reduceAdd]; omega)) rfl ?_
    refine v_iinc7 (n := 262) xB_168 dX11_goRun_259 rfl (by first | omega | (simp only [sA_same, sA_s, ud_s, Int.reduceEq, if_true, if_false, ite_true, ite_false, ↓reduceIte, and_true, true_and, eq_self, Int.add_zero, Int.reduceAdd]; omega)) rfl ?_
    refine v_goto (t := 217) xB_168 dX11_goRun_262 (by decide) rfl ?_
    refine ih _ ?_ _ (by omega)
    (try simp (disch := omega) only [sA_same, sA_ne, sA_sA, sA_sr, sB_s, ud_eq, ud_ne, ud_ud, ud_sr, uB_s, Int.add_zero, Int.reduceAdd])
    subst hz
    exact sA2g (by funext j'; simp only [ud_s, ivl, sA_same, sA_s, Int.reduceEq, if_true, if_false, ↓reduceIte]; (repeat' split) <;> first | rfl | omega | (congr 1; omega)) (by funext j'; simp only [ud_s, ivl, sA_same, sA_s, Int.reduceEq, if_true, if_false, ↓reduceIte]; (repeat' split) <;> first | rfl | omega | (congr 1; omega))
  · rw [ivl_0 (by omega), ivl_0 (by omega), sA_id, sA_id]
set_option maxHeartbeats 2000000 in
set_option maxHeartbeats 1000000 in
theorem c_goRun {d : Nat} {t j : Int} {CL : CLs} {m : PM} {dy : List (Nat × Nat)} {L : Nat} {Q : Option PV → PS → Prop} (hd : 5 ≤ d) (hj : 0 ≤ j ∧ j < 6) (hJ : JR m j CL) (ht : 0 ≤ t ∧ t < 5) (hN : 0 ≤ m 81 22 ∧ m 81 22 ≤ 12) (h82 : 0 ≤ m 82 t ∧ m 82 t ≤ 6) (h83 : 0 ≤ m 83 t ∧ m 83 t ≤ 9) (hr : r9 (m 85)) (hb : bl (m 99)) (hp : pgs (m 96)) (hob : bl (m 100)) (hop : pgs (m 97)) (hnb : bl (m 101)) (hnp : pgs (m 98)) (o1 : ∀ f95 sd od ns dn on nd : Int → Int, bl dn → bl on → bl nd → pgs sd → pgs od → pgs ns → (∀ s, 0 ≤ s → s < m 81 22 → pkA sd dn s = cF (m 82 t) (m 83 t) (fun x => m 85 (4 * t + x)) CL (m 81 22) (pkA (m 96) (m 99)) s) → Q (none) (setA (setA (setA (setA (setA (setA (setA (setA (m) 81 (ud (ud (m 81) 29 (TF (m 82 t) (m 83 t) CL (m 81 22))) 30 (prF (m 82 t) (m 83 t) (TF (m 82 t) (m 83 t) CL (m 81 22))))) 95 (f95)) 96 (sd)) 97 (od)) 98 (ns)) 99 (dn)) 100 (on)) 101 (nd), (none, (dy, L)))) : C d 168 [.inr (.inr 81), .inl t, .inl j] (m, (none, (dy, L))) Q := by
  refine C_go (k := 4) hd xL_168 (fun d hd => ?_)
  show V d 168 (0, ([some (.inr (.inr 81)), some (.inl t), some (.inl j), none, none, none, none, none, none], ([], (m, (none, (dy, L)))))) Q
  refine v_iconst (n := 1) xB_168 dX11_goRun_0 ⟨by decide, by decide⟩ rfl ?_
  refine v_istore_n3 (n := 2) xB_168 dX11_goRun_1 rfl rfl ?_
  refine v_aload_n (n := 3) xB_168 dX11_goRun_2 rfl rfl ?_
  refine v_gf_i (n := 6) (kz := 22) xB_168 dX11_goRun_3 xO_168 fl_11_78 fg_11_22 rfl (sh_81 _ _ _) rfl rfl ?_
  refine v_iconst (n := 7) xB_168 dX11_goRun_6 ⟨by decide, by decide⟩ rfl ?_
  refine v_isub (n := 8) xB_168 dX11_goRun_7 (by first | omega | (simp only [sA_same, sA_s, ud_s, Int.reduceEq, if_true, if_false, ite_true, ite_false, ↓reduceIte, and_true, true_and, eq_self, Int.add_zero, Int.reduceAdd]; omega)) rfl ?_
  refine v_istore4 (n := 10) xB_168 dX11_goRun_8 rfl rfl ?_
  refine v_aload_n (n := 11) xB_168 dX11_goRun_10 rfl rfl ?_
  refine v_iconst (n := 12) xB_168 dX11_goRun_11 ⟨by decide, by decide⟩ rfl ?_
  refine v_pf_i (n := 15) (kz := 29) xB_168 dX11_goRun_12 xO_168 fl_11_99 fg_11_29 (Or.inl fn_11_29) (sh_81 _ _ _) (by decide) rfl rfl ?_
  (try simp (disch := omega) only [sA_same, sA_ne, sA_sA, sA_sr, sB_s, ud_eq, ud_ne, ud_ud, ud_sr, uB_s, Int.add_zero, Int.reduceAdd])
  refine v_aload_n (n := 16) xB_168 dX11_goRun_15 rfl rfl ?_
  refine v_iconst (n := 17) xB_168 dX11_goRun_16 ⟨by decide, by decide⟩ rfl ?_
  refine v_pf_i (n := 20) (kz := 30) xB_168 dX11_goRun_17 xO_168 fl_11_102 fg_11_30 (Or.inl fn_11_30) (sh_81 _ _ _) (by decide) rfl rfl ?_
  (try simp (disch := omega) only [sA_same, sA_ne, sA_sA, sA_sr, sB_s, ud_eq, ud_ne, ud_ud, ud_sr, uB_s, Int.add_zero, Int.reduceAdd])
  refine v_aload_n (n := 21) xB_168 dX11_goRun_20 rfl rfl ?_
  refine v_iload_n (n := 22) xB_168 dX11_goRun_21 rfl rfl ?_
  refine v_aload_n (n := 23) xB_168 dX11_goRun_22 rfl rfl ?_
  refine v_iload_n (n := 24) xB_168 dX11_goRun_23 rfl rfl ?_
  refine v_call_v (n := 27) xB_168 dX11_goRun_24 xO_168 iv_11_286 rfl (sh_81 _ _ _) rfl rfl rfl ?_
  refine c_first (by omega) (by first | omega | (simp only [sA_same, sA_s, ud_s, Int.reduceEq, if_true, if_false, ite_true, ite_false, ↓reduceIte, and_true, true_and, eq_self, Int.add_zero, Int.reduceAdd]; omega)) (of_eq' (JR_fr (m := m) (by simp (disch := omega) only [sA_ne]) ⟨by simp (disch := omega) only [sA_ne], by simp (disch := omega) only [sA_ne], by simp (disch := omega) only [sA_ne], by simp (disch := omega) only [sA_ne], by simp (disch := omega) only [sA_ne]⟩ _ _) hJ) ?_
  refine v_iload_n (n := 28) xB_168 dX11_goRun_27 rfl rfl ?_
  refine v_call_v (n := 31) xB_168 dX11_goRun_28 xO_168 iv_11_331 rfl (sh_81 _ _ _) rfl rfl rfl ?_
  refine c_goesOn (by omega) (by first | omega | (simp only [sA_same, sA_s, ud_s, Int.reduceEq, if_true, if_false, ite_true, ite_false, ↓reduceIte, and_true, true_and, eq_self, Int.add_zero, Int.reduceAdd]; omega)) (of_eq' (JR_fr (m := m) (by simp (disch := omega) only [sA_ne]) ⟨by simp (disch := omega) only [sA_ne], by simp (disch := omega) only [sA_ne], by simp (disch := omega) only [sA_ne], by simp (disch := omega) only [sA_ne], by simp (disch := omega) only [sA_ne]⟩ _ _) hJ) (by first | omega | (simp only [sA_same, sA_s, ud_s, Int.reduceEq, if_true, if_false, ite_true, ite_false, ↓reduceIte, and_true, true_and, eq_self, Int.add_zero, Int.reduceAdd]; omega)) (by have := frW_in (JR_ok hJ); omega) (fun f5 => ?_)
  (try simp (disch := omega) only [sA_same, sA_ne, sA_sA, sA_sr, sB_s, ud_eq, ud_ne, ud_ud, ud_sr, uB_s, Int.add_zero, Int.reduceAdd])
  refine v_istore5 (n := 33) xB_168 dX11_goRun_31 rfl rfl ?_
  rw [show ∀ U : Int → Int, setA (setA m 81 U) 95 f5 = setA (setA (setA (setA (setA (setA m 81 U) 95 f5) 96 (m 96)) 97 (m 97)) 99 (m 99)) 100 (m 100) from fun U => by funext a; simp only [sA_s]; (repeat' split) <;> first | rfl | omega | (subst_vars; rfl)]
  refine v_goRun (by omega) hj hJ ht hN h82 h83 hr hb hp (T := TF (m 82 t) (m 83 t) CL (m 81 22)) (fun top low pg f95 sd od dn on x6 x7 x8 htop hlow hdn hsd hon hod hl ho => ?_) (m 81 22).toNat 0 _ _ _ _ _ _ _ _ _ _ _ (by omega) rfl rfl ?_ ?_ hb hp hob hop ?_ ?_
  · have hT := tkF_in (m 82 t) (m 83 t) CL (m 81 22).toNat 0
    have hT2 : (TF (m 82 t) (m 83 t) CL (m 81 22) : Int) ≤ m 81 22 := by unfold TF; omega
    refine v_goEnd ?_ ?_ ?_ ?_ ?_ ?_ ?_ ?_ ?_ ?_ (fun sd2 ns2 dn2 nd2 c1 c2 c3 c4 c5 => ?_)
    · simp (disch := omega) only [sA_same, sA_ne, sA_sA, sA_sr, sB_s, ud_eq, ud_ne, ud_ud, ud_sr, uB_s, Int.add_zero, Int.reduceAdd]; exact hN
    · simp (disch := omega) only [sA_same, sA_ne, sA_sA, sA_sr, sB_s, ud_eq, ud_ne, ud_ud, ud_sr, uB_s, Int.add_zero, Int.reduceAdd]; omega
    · simp (disch := omega) only [sA_same, sA_ne, sA_sA, sA_sr, sB_s, ud_eq, ud_ne, ud_ud, ud_sr, uB_s, Int.add_zero, Int.reduceAdd]; rw [hlow, htop]; split <;> omega
    · simp (disch := omega) only [sA_same, sA_ne, sA_sA, sA_sr, sB_s, ud_eq, ud_ne, ud_ud, ud_sr, uB_s, Int.add_zero, Int.reduceAdd]; rw [htop]; split <;> omega
    · simp (disch := omega) only [sA_same, sA_ne, sA_sA, sA_sr, sB_s, ud_eq, ud_ne, ud_ud, ud_sr, uB_s, Int.add_zero, Int.reduceAdd]; assumption
    · simp (disch := omega) only [sA_same, sA_ne, sA_sA, sA_sr, sB_s, ud_eq, ud_ne, ud_ud, ud_sr, uB_s, Int.add_zero, Int.reduceAdd]; assumption
    · simp (disch := omega) only [sA_same, sA_ne, sA_sA, sA_sr, sB_s, ud_eq, ud_ne, ud_ud, ud_sr, uB_s, Int.add_zero, Int.reduceAdd]; assumption
    · simp (disch := omega) only [sA_same, sA_ne, sA_sA, sA_sr, sB_s, ud_eq, ud_ne, ud_ud, ud_sr, uB_s, Int.add_zero, Int.reduceAdd]; assumption
    · simp (disch := omega) only [sA_same, sA_ne, sA_sA, sA_sr, sB_s, ud_eq, ud_ne, ud_ud, ud_sr, uB_s, Int.add_zero, Int.reduceAdd]; assumption
    · simp (disch := omega) only [sA_same, sA_ne, sA_sA, sA_sr, sB_s, ud_eq, ud_ne, ud_ud, ud_sr, uB_s, Int.add_zero, Int.reduceAdd]; assumption
    · simp (disch := omega) only [sA_same, sA_ne, sA_sA, sA_sr, sB_s, ud_eq, ud_ne, ud_ud, ud_sr, uB_s, Int.add_zero, Int.reduceAdd] at c5 ⊢
      refine o1 _ _ _ _ _ _ _ c1 hon c2 c3 hod c4 (fun s h1 h2 => ?_)
      rw [c5 s h1 h2]
      unfold cF
      by_cases hs : s < m 81 22 - (TF (m 82 t) (m 83 t) CL (m 81 22) : Int)
      · rw [if_pos hs, if_pos hs, hl _ (by omega) (by rw [hlow, htop]; split <;> omega), htop]
      · rw [if_neg hs, if_neg hs]
        have e := ho (m 81 22 - 1 - s).toNat (by omega)
        rw [show (((m 81 22 - 1 - s).toNat : Nat) : Int) = m 81 22 - 1 - s by omega] at e
        exact e
  · split <;> rfl
  · split <;> omega
  · intro s _ _; rfl
  · intro i hi; omega
