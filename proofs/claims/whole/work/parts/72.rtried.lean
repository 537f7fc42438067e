/-! What is asked: the reference, tried runs. -/
def RI (m : PM) (CF : Int → CLs) : Prop := (0 ≤ m 81 22 ∧ m 81 22 ≤ 12) ∧ (0 ≤ m 81 0 ∧ m 81 0 ≤ 5) ∧ (0 ≤ m 81 5 ∧ m 81 5 ≤ 6) ∧ (bl (m 99) ∧ pgs (m 96) ∧ pgs (m 97) ∧ pgs (m 98) ∧ bl (m 100) ∧ bl (m 101) ∧ pgs (m 102) ∧ bl (m 103)) ∧ r9 (m 85) ∧ (∀ t, 0 ≤ t → t < 5 → (0 ≤ m 82 t ∧ m 82 t ≤ 6) ∧ (0 ≤ m 83 t ∧ m 83 t ≤ 9)) ∧ ((0 ≤ m 81 34 ∧ m 81 34 ≤ 5) ∧ (∀ i, 0 ≤ i → i < m 81 34 → 0 ≤ m 104 i)) ∧ (∀ j, 0 ≤ j → j < m 81 5 → JR m j (CF j))
theorem RI_of {m0 m : PM} {dy : List (Nat × Nat)} {CF : Int → CLs} (h : Inv m0 m dy) (hJ : JF m dy CF) : RI m CF := by
  obtain ⟨hSt, hSc, hTr, hSe, hPl, hBo, hIm, hHm, hTx, hAc, hTp, hJb, hCo⟩ := h
  refine ⟨hSt.1, hTr.1, hJb.1, ⟨hSt.2.2.2.1, hSt.2.2.2.2.1, hSc.2.2.2⟩, hTr.2.2.1, fun t a b => ⟨(hTr.2.2.2 t a b).2.2.2.2.1, (hTr.2.2.2 t a b).2.2.2.2.2.1⟩, ⟨hSe.1, fun i a b => ?_⟩, fun j a b => (hJ j a b).2⟩
  have := hSe.2.2 i a b
  omega
theorem JR_s {m m' : PM} {j : Int} {CL : CLs} (h : ∀ a : Int, 87 ≤ a → a ≤ 92 → m' a = m a) (hJ : JR m j CL) : JR m' j CL := by
  rw [JR_fr (h 87 (by omega) (by omega)) ⟨h 88 (by omega) (by omega), h 89 (by omega) (by omega), h 90 (by omega) (by omega), h 91 (by omega) (by omega), h 92 (by omega) (by omega)⟩]
  exact hJ
theorem RI_R {m m' : PM} {CF : Int → CLs} (h : RI m CF) (hf : RFr m m') : RI m' CF := by
  obtain ⟨a1, a2, a3, a4, a5, a6, a7, a8⟩ := h
  have e22 := hf.2.1 22 (by omega)
  have e0 := hf.2.1 0 (by omega)
  have e5 := hf.2.1 5 (by omega)
  have e34 := hf.2.1 34 (by omega)
  refine ⟨by omega, by omega, by omega, hf.2.2.1, by rw [hf.1 85 (by omega) (by omega)]; exact a5, by rw [hf.1 82 (by omega) (by omega), hf.1 83 (by omega) (by omega)]; exact a6, by rw [hf.1 104 (by omega) (by omega), e34]; exact a7, fun j h1 h2 => JR_s (fun a p q => hf.1 a (by omega) (by omega)) (a8 j h1 (by omega))⟩
theorem RI_refl {m : PM} {CF : Int → CLs} (h : RI m CF) : RFr m m := ⟨fun _ _ _ => rfl, fun _ _ => rfl, h.2.2.2.1, fun _ _ _ => rfl⟩
theorem q_R {m m2 : PM} {F f95 a b c d e f g h : Int → Int} (hF : ∀ k : Int, k < 29 ∨ 31 < k → F k = m 81 k) (hd : bl d) (ha : pgs a) (hb : pgs b) (hc : pgs c) (he : bl e) (hf : bl f) (hg : pgs g) (hh : bl h) (hp : ∀ s, 0 ≤ s → s < 12 → pkA a d s = pkA (m 96) (m 99) s) (E : m2 = setA (setA (setA (setA (setA (setA (setA (setA (setA (setA m 81 F) 95 f95) 96 a) 97 b) 98 c) 99 d) 100 e) 101 f) 102 g) 103 h) : RFr m m2 := by
  subst E
  refine ⟨fun x h1 h2 => by simp (disch := omega) only [sA_ne], fun k hk => ?_, ⟨?_, ?_, ?_, ?_, ?_, ?_, ?_, ?_⟩, fun s h1 h2 => ?_⟩
  · simp (disch := omega) only [sA_ne, sA_same]; exact hF k hk
  · simp (disch := omega) only [sA_ne, sA_same]; exact hd
  · simp (disch := omega) only [sA_ne, sA_same]; exact ha
  · simp (disch := omega) only [sA_ne, sA_same]; exact hb
  · simp (disch := omega) only [sA_ne, sA_same]; exact hc
  · simp (disch := omega) only [sA_ne, sA_same]; exact he
  · simp (disch := omega) only [sA_ne, sA_same]; exact hf
  · simp (disch := omega) only [sA_ne, sA_same]; exact hg
  · simp (disch := omega) only [sA_ne, sA_same]; exact hh
  · simp (disch := omega) only [sA_ne, sA_same]; exact hp s h1 h2
theorem pkA_iv {a b a' b' c d : Int → Int} {s : Int} (h0 : 0 ≤ s) (h1 : s < 12) : pkA (ivl (ivl a c 0 24) a' 0 24) (ivl (ivl b d 0 24) b' 0 24) s = pkA a b s := by
  unfold pkA
  simp (disch := omega) only [ivl_in]
theorem pgk_sd {sd dn c : Int → Int} {N k : Int} (hb : bl dn) (hp : pgs sd) (h : ∀ s, 0 ≤ s → s < N → pkA sd dn s = c s) (h0 : 0 ≤ k) (h1 : k < 2 * N) : sd k = pgk c k := by
  rw [← pgk_pk hp hb k]
  unfold pgk
  rw [h (k / 2) (by omega) (by omega)]
def AF (m : PM) (CF : Int → CLs) (t j w : Int) : Int :=
  if ¬ ((0 ≤ t ∧ t < m 81 0) ∧ (0 ≤ j ∧ j < m 81 5)) then -1
  else if w = 0 then RT m CF t j
  else if w = 1 then PQ m CF (m 81 22) t (m 83 t) j
  else if w = 2 then swF (m 81 22) (RA m CF t (m 83 t) j) 99
  else if 10 ≤ w ∧ w ≤ 9 + m 81 22 then pgk (RA m CF t (m 83 t) j) (2 * (w - 10))
  else if 30 ≤ w ∧ w ≤ 29 + m 81 22 then pgk (RA m CF t (m 83 t) j) (2 * (w - 30) + 1)
  else -1
theorem AF_AE {m m' : PM} (h : AE m m') (CF : Int → CLs) : AF m' CF = AF m CF := by
  funext t j w; unfold AF
  rw [RT_AE h, RA_AE h, PQ_AE h, h.2.1, h.2.2.1, h.2.2.2.1, h.2.2.2.2.2.1]
set_option maxRecDepth 4000 in
set_option maxHeartbeats 4000000 in
theorem vc_after {d : Nat} {CF : Int → CLs} {t j w : Int} {m : PM} {dy : List (Nat × Nat)} {L : Nat} {Q : Option PV → PS → Prop} (hd : 5 ≤ d) (hR : RI m CF) (ht : 0 ≤ t ∧ t < m 81 0) (hj : 0 ≤ j ∧ j < m 81 5) (hw : w = 0 ∨ w = 1 ∨ w = 2 ∨ (10 ≤ w ∧ w ≤ 9 + m 81 22) ∨ (30 ≤ w ∧ w ≤ 29 + m 81 22)) (x4 : Option PV) (o1 : ∀ m' : PM, RFr m m' → Q (some (.inl (AF m CF t j w))) (m', (none, (dy, L)))) : V d 172 (62, ([some (.inr (.inr 81)), some (.inl t), some (.inl j), some (.inl w), x4], ([], (m, (none, (dy, L)))))) Q := by
  obtain ⟨s1, t1, j1, ⟨b1, b2, b3, b4, b5, b6, b7, b8⟩, r1, v1, ⟨u1, u2⟩, jr⟩ := hR
  have hR0 : RI m CF := ⟨s1, t1, j1, ⟨b1, b2, b3, b4, b5, b6, b7, b8⟩, r1, v1, ⟨u1, u2⟩, jr⟩
  have v2 := v1 t (by omega) (by omega)
  rcases hw with hw | hw | hw | hw | hw
  · refine v_aload_n (n := 63) xB_172 dX11_after_62 rfl rfl ?_
    refine v_call_v (n := 66) xB_172 dX11_after_63 xO_172 iv_11_349 rfl (sh_81 _ _ _) rfl rfl rfl ?_
    refine c_save (by omega) b1 ?_
    (try simp (disch := omega) only [sA_same, sA_ne, sA_sA, sA_sr, sB_s, ud_eq, ud_ne, ud_ud, ud_sr, uB_s, Int.add_zero, Int.reduceAdd])
    refine v_aload_n (n := 67) xB_172 dX11_after_66 rfl rfl ?_
    refine v_iload_n (n := 68) xB_172 dX11_after_67 rfl rfl ?_
    refine v_iload_n (n := 69) xB_172 dX11_after_68 rfl rfl ?_
    refine v_call_v (n := 72) xB_172 dX11_after_69 xO_172 iv_11_346 rfl (sh_81 _ _ _) rfl rfl rfl ?_
    refine c_goRun (by omega) (by first | omega | (simp only [sA_same, sA_s, ud_s, Int.reduceEq, if_true, if_false, ite_true, ite_false, ↓reduceIte, and_true, true_and, eq_self, Int.add_zero, Int.reduceAdd]; omega) | (simp (disch := omega) only [sA_same, sA_ne, ud_eq, ud_ne, Int.add_zero, Int.reduceAdd]; omega)) (JR_s (fun a q1 q2 => by simp (disch := omega) only [sA_ne]) (jr (j) (by omega) (by omega))) (by first | omega | (simp only [sA_same, sA_s, ud_s, Int.reduceEq, if_true, if_false, ite_true, ite_false, ↓reduceIte, and_true, true_and, eq_self, Int.add_zero, Int.reduceAdd]; omega) | (simp (disch := omega) only [sA_same, sA_ne, ud_eq, ud_ne, Int.add_zero, Int.reduceAdd]; omega)) (by first | omega | (simp only [sA_same, sA_s, ud_s, Int.reduceEq, if_true, if_false, ite_true, ite_false, ↓reduceIte, and_true, true_and, eq_self, Int.add_zero, Int.reduceAdd]; omega) | (simp (disch := omega) only [sA_same, sA_ne, ud_eq, ud_ne, Int.add_zero, Int.reduceAdd]; omega)) (by first | omega | (simp only [sA_same, sA_s, ud_s, Int.reduceEq, if_true, if_false, ite_true, ite_false, ↓reduceIte, and_true, true_and, eq_self, Int.add_zero, Int.reduceAdd]; omega) | (simp (disch := omega) only [sA_same, sA_ne, ud_eq, ud_ne, Int.add_zero, Int.reduceAdd]; omega)) (by first | omega | (simp only [sA_same, sA_s, ud_s, Int.reduceEq, if_true, if_false, ite_true, ite_false, ↓reduceIte, and_true, true_and, eq_self, Int.add_zero, Int.reduceAdd]; omega) | (simp (disch := omega) only [sA_same, sA_ne, ud_eq, ud_ne, Int.add_zero, Int.reduceAdd]; omega)) (by simp (disch := omega) only [sA_same, sA_ne, sA_sA, sA_sr, sB_s, ud_eq, ud_ne, ud_ud, ud_sr, uB_s, Int.add_zero, Int.reduceAdd]; exact r1) (by simp (disch := omega) only [sA_same, sA_ne, sA_sA, sA_sr, sB_s, ud_eq, ud_ne, ud_ud, ud_sr, uB_s, Int.add_zero, Int.reduceAdd]; exact b1) (by simp (disch := omega) only [sA_same, sA_ne, sA_sA, sA_sr, sB_s, ud_eq, ud_ne, ud_ud, ud_sr, uB_s, Int.add_zero, Int.reduceAdd]; exact b2) (by simp (disch := omega) only [sA_same, sA_ne, sA_sA, sA_sr, sB_s, ud_eq, ud_ne, ud_ud, ud_sr, uB_s, Int.add_zero, Int.reduceAdd]; exact b5) (by simp (disch := omega) only [sA_same, sA_ne, sA_sA, sA_sr, sB_s, ud_eq, ud_ne, ud_ud, ud_sr, uB_s, Int.add_zero, Int.reduceAdd]; exact b3) (by simp (disch := omega) only [sA_same, sA_ne, sA_sA, sA_sr, sB_s, ud_eq, ud_ne, ud_ud, ud_sr, uB_s, Int.add_zero, Int.reduceAdd]; exact b6) (by simp (disch := omega) only [sA_same, sA_ne, sA_sA, sA_sr, sB_s, ud_eq, ud_ne, ud_ud, ud_sr, uB_s, Int.add_zero, Int.reduceAdd]; exact b4) (fun f95 sd od ns dn on nd c1 c2 c3 c4 c5 c6 c7 => ?_)
    (try simp (disch := omega) only [sA_same, sA_ne, sA_sA, sA_sr, sB_s, ud_eq, ud_ne, ud_ud, ud_sr, uB_s, Int.add_zero, Int.reduceAdd] at c7)
    have c8 : ∀ s, 0 ≤ s → s < m 81 22 → pkA sd dn s = RA m CF t (m 83 t) j s := fun s a b => by
      rw [c7 s a b]; unfold RA RQ; exact cF_congr (fun x a b => (pc_at s1 a b).symm) (fun _ _ _ => rfl) a b
    (try simp (disch := omega) only [sA_same, sA_ne, sA_sA, sA_sr, sB_s, ud_eq, ud_ne, ud_ud, ud_sr, uB_s, Int.add_zero, Int.reduceAdd])
    refine v_iload_n (n := 73) xB_172 dX11_after_72 rfl rfl ?_
    refine v_if_ne_n (n := 76) xB_172 dX11_after_73 (by decide) rfl (by first | omega | (simp only [sA_same, sA_s, ud_s, Int.reduceEq, if_true, if_false, ite_true, ite_false, ↓reduceIte, and_true, true_and, eq_self, Int.add_zero, Int.reduceAdd]; omega) | (simp (disch := omega) only [sA_same, sA_ne, ud_eq, ud_ne, Int.add_zero, Int.reduceAdd]; omega)) ?_
    refine v_aload_n (n := 77) xB_172 dX11_after_76 rfl rfl ?_
    refine v_call_v (n := 80) xB_172 dX11_after_77 xO_172 iv_11_318 rfl (sh_81 _ _ _) rfl rfl rfl ?_
    refine c_right (by omega) (by first | omega | (simp only [sA_same, sA_s, ud_s, Int.reduceEq, if_true, if_false, ite_true, ite_false, ↓reduceIte, and_true, true_and, eq_self, Int.add_zero, Int.reduceAdd]; omega) | (simp (disch := omega) only [sA_same, sA_ne, ud_eq, ud_ne, Int.add_zero, Int.reduceAdd]; omega)) (by simp (disch := omega) only [sA_same, sA_ne, sA_sA, sA_sr, sB_s, ud_eq, ud_ne, ud_ud, ud_sr, uB_s, Int.add_zero, Int.reduceAdd]; exact c1) (by simp (disch := omega) only [sA_same, sA_ne, sA_sA, sA_sr, sB_s, ud_eq, ud_ne, ud_ud, ud_sr, uB_s, Int.add_zero, Int.reduceAdd]; exact c4) ?_
    refine v_goto (t := 142) xB_172 dX11_after_80 (by decide) rfl ?_
    refine v_istore4 (n := 144) xB_172 dX11_after_142 rfl rfl ?_
    refine v_aload_n (n := 145) xB_172 dX11_after_144 rfl rfl ?_
    refine v_call_v (n := 148) xB_172 dX11_after_145 xO_172 iv_11_352 rfl (sh_81 _ _ _) rfl rfl rfl ?_
    refine c_putBack (by omega) (by simp (disch := omega) only [sA_same, sA_ne, sA_sA, sA_sr, sB_s, ud_eq, ud_ne, ud_ud, ud_sr, uB_s, Int.add_zero, Int.reduceAdd]; exact (bl_ivl b1 b8 _ _)) ?_
    (try simp (disch := omega) only [sA_same, sA_ne, sA_sA, sA_sr, sB_s, ud_eq, ud_ne, ud_ud, ud_sr, uB_s, Int.add_zero, Int.reduceAdd])
    refine v_iload (n := 150) xB_172 dX11_after_148 rfl rfl ?_
    refine v_ireturn0 xB_172 dX11_after_150 xK_172 ?_
    (try simp (disch := omega) only [sA_same, sA_ne, sA_sA, sA_sr, sB_s, ud_eq, ud_ne, ud_ud, ud_sr, uB_s, Int.add_zero, Int.reduceAdd])
    refine q_eqI (o1 _ (q_R (fun k hk => by simp only [ud_s]; (repeat' split) <;> first | rfl | omega | (subst_vars; first | rfl | omega)) (bl_ivl (bl_ivl b1 b8 _ _) c1 _ _) (pgs_ivl (pgs_ivl b2 b7 _ _) c4 _ _) c5 c6 c2 c3 (pgs_ivl b2 b7 _ _) (bl_ivl b1 b8 _ _) (fun s a b => pkA_iv a b) rfl)) ?_
    unfold AF
    rw [if_neg (by omega), if_pos (by omega)]
    unfold RT; rw [rtF_congr c8]
  · refine v_aload_n (n := 63) xB_172 dX11_after_62 rfl rfl ?_
    refine v_call_v (n := 66) xB_172 dX11_after_63 xO_172 iv_11_349 rfl (sh_81 _ _ _) rfl rfl rfl ?_
    refine c_save (by omega) b1 ?_
    (try simp (disch := omega) only [sA_same, sA_ne, sA_sA, sA_sr, sB_s, ud_eq, ud_ne, ud_ud, ud_sr, uB_s, Int.add_zero, Int.reduceAdd])
    refine v_aload_n (n := 67) xB_172 dX11_after_66 rfl rfl ?_
    refine v_iload_n (n := 68) xB_172 dX11_after_67 rfl rfl ?_
    refine v_iload_n (n := 69) xB_172 dX11_after_68 rfl rfl ?_
    refine v_call_v (n := 72) xB_172 dX11_after_69 xO_172 iv_11_346 rfl (sh_81 _ _ _) rfl rfl rfl ?_
    refine c_goRun (by omega) (by first | omega | (simp only [sA_same, sA_s, ud_s, Int.reduceEq, if_true, if_false, ite_true, ite_false, ↓reduceIte, and_true, true_and, eq_self, Int.add_zero, Int.reduceAdd]; omega) | (simp (disch := omega) only [sA_same, sA_ne, ud_eq, ud_ne, Int.add_zero, Int.reduceAdd]; omega)) (JR_s (fun a q1 q2 => by simp (disch := omega) only [sA_ne]) (jr (j) (by omega) (by omega))) (by first | omega | (simp only [sA_same, sA_s, ud_s, Int.reduceEq, if_true, if_false, ite_true, ite_false, ↓reduceIte, and_true, true_and, eq_self, Int.add_zero, Int.reduceAdd]; omega) | (simp (disch := omega) only [sA_same, sA_ne, ud_eq, ud_ne, Int.add_zero, Int.reduceAdd]; omega)) (by first | omega | (simp only [sA_same, sA_s, ud_s, Int.reduceEq, if_true, if_false, ite_true, ite_false, ↓reduceIte, and_true, true_and, eq_self, Int.add_zero, Int.reduceAdd]; omega) | (simp (disch := omega) only [sA_same, sA_ne, ud_eq, ud_ne, Int.add_zero, Int.reduceAdd]; omega)) (by first | omega | (simp only [sA_same, sA_s, ud_s, Int.reduceEq, if_true, if_false, ite_true, ite_false, ↓reduceIte, and_true, true_and, eq_self, Int.add_zero, Int.reduceAdd]; omega) | (simp (disch := omega) only [sA_same, sA_ne, ud_eq, ud_ne, Int.add_zero, Int.reduceAdd]; omega)) (by first | omega | (simp only [sA_same, sA_s, ud_s, Int.reduceEq, if_true, if_false, ite_true, ite_false, ↓reduceIte, and_true, true_and, eq_self, Int.add_zero, Int.reduceAdd]; omega) | (simp (disch := omega) only [sA_same, sA_ne, ud_eq, ud_ne, Int.add_zero, Int.reduceAdd]; omega)) (by simp (disch := omega) only [sA_same, sA_ne, sA_sA, sA_sr, sB_s, ud_eq, ud_ne, ud_ud, ud_sr, uB_s, Int.add_zero, Int.reduceAdd]; exact r1) (by simp (disch := omega) only [sA_same, sA_ne, sA_sA, sA_sr, sB_s, ud_eq, ud_ne, ud_ud, ud_sr, uB_s, Int.add_zero, Int.reduceAdd]; exact b1) (by simp (disch := omega) only [sA_same, sA_ne, sA_sA, sA_sr, sB_s, ud_eq, ud_ne, ud_ud, ud_sr, uB_s, Int.add_zero, Int.reduceAdd]; exact b2) (by simp (disch := omega) only [sA_same, sA_ne, sA_sA, sA_sr, sB_s, ud_eq, ud_ne, ud_ud, ud_sr, uB_s, Int.add_zero, Int.reduceAdd]; exact b5) (by simp (disch := omega) only [sA_same, sA_ne, sA_sA, sA_sr, sB_s, ud_eq, ud_ne, ud_ud, ud_sr, uB_s, Int.add_zero, Int.reduceAdd]; exact b3) (by simp (disch := omega) only [sA_same, sA_ne, sA_sA, sA_sr, sB_s, ud_eq, ud_ne, ud_ud, ud_sr, uB_s, Int.add_zero, Int.reduceAdd]; exact b6) (by simp (disch := omega) only [sA_same, sA_ne, sA_sA, sA_sr, sB_s, ud_eq, ud_ne, ud_ud, ud_sr, uB_s, Int.add_zero, Int.reduceAdd]; exact b4) (fun f95 sd od ns dn on nd c1 c2 c3 c4 c5 c6 c7 => ?_)
    (try simp (disch := omega) only [sA_same, sA_ne, sA_sA, sA_sr, sB_s, ud_eq, ud_ne, ud_ud, ud_sr, uB_s, Int.add_zero, Int.reduceAdd] at c7)
    have c8 : ∀ s, 0 ≤ s → s < m 81 22 → pkA sd dn s = RA m CF t (m 83 t) j s := fun s a b => by
      rw [c7 s a b]; unfold RA RQ; exact cF_congr (fun x a b => (pc_at s1 a b).symm) (fun _ _ _ => rfl) a b
    (try simp (disch := omega) only [sA_same, sA_ne, sA_sA, sA_sr, sB_s, ud_eq, ud_ne, ud_ud, ud_sr, uB_s, Int.add_zero, Int.reduceAdd])
    refine v_iload_n (n := 73) xB_172 dX11_after_72 rfl rfl ?_
    refine v_if_ne_y (t := 83) xB_172 dX11_after_73 (by decide) rfl (by first | omega | (simp only [sA_same, sA_s, ud_s, Int.reduceEq, if_true, if_false, ite_true, ite_false, ↓reduceIte, and_true, true_and, eq_self, Int.add_zero, Int.reduceAdd]; omega) | (simp (disch := omega) only [sA_same, sA_ne, ud_eq, ud_ne, Int.add_zero, Int.reduceAdd]; omega)) ?_
    refine v_iload_n (n := 84) xB_172 dX11_after_83 rfl rfl ?_
    refine v_iconst (n := 85) xB_172 dX11_after_84 ⟨by decide, by decide⟩ rfl ?_
    refine v_ic_ne_n (n := 88) xB_172 dX11_after_85 (by decide) rfl (by first | omega | (simp only [sA_same, sA_s, ud_s, Int.reduceEq, if_true, if_false, ite_true, ite_false, ↓reduceIte, and_true, true_and, eq_self, Int.add_zero, Int.reduceAdd]; omega) | (simp (disch := omega) only [sA_same, sA_ne, ud_eq, ud_ne, Int.add_zero, Int.reduceAdd]; omega)) ?_
    refine v_aload_n (n := 89) xB_172 dX11_after_88 rfl rfl ?_
    refine v_gf_i (n := 92) (kz := 30) xB_172 dX11_after_89 xO_172 fl_11_102 fg_11_30 rfl (sh_81 _ _ _) rfl rfl ?_
    refine v_goto (t := 142) xB_172 dX11_after_92 (by decide) rfl ?_
    refine v_istore4 (n := 144) xB_172 dX11_after_142 rfl rfl ?_
    refine v_aload_n (n := 145) xB_172 dX11_after_144 rfl rfl ?_
    refine v_call_v (n := 148) xB_172 dX11_after_145 xO_172 iv_11_352 rfl (sh_81 _ _ _) rfl rfl rfl ?_
    refine c_putBack (by omega) (by simp (disch := omega) only [sA_same, sA_ne, sA_sA, sA_sr, sB_s, ud_eq, ud_ne, ud_ud, ud_sr, uB_s, Int.add_zero, Int.reduceAdd]; exact (bl_ivl b1 b8 _ _)) ?_
    (try simp (disch := omega) only [sA_same, sA_ne, sA_sA, sA_sr, sB_s, ud_eq, ud_ne, ud_ud, ud_sr, uB_s, Int.add_zero, Int.reduceAdd])
    refine v_iload (n := 150) xB_172 dX11_after_148 rfl rfl ?_
    refine v_ireturn0 xB_172 dX11_after_150 xK_172 ?_
    (try simp (disch := omega) only [sA_same, sA_ne, sA_sA, sA_sr, sB_s, ud_eq, ud_ne, ud_ud, ud_sr, uB_s, Int.add_zero, Int.reduceAdd])
    refine q_eqI (o1 _ (q_R (fun k hk => by simp only [ud_s]; (repeat' split) <;> first | rfl | omega | (subst_vars; first | rfl | omega)) (bl_ivl (bl_ivl b1 b8 _ _) c1 _ _) (pgs_ivl (pgs_ivl b2 b7 _ _) c4 _ _) c5 c6 c2 c3 (pgs_ivl b2 b7 _ _) (bl_ivl b1 b8 _ _) (fun s a b => pkA_iv a b) rfl)) ?_
    unfold AF
    rw [if_neg (by omega), if_neg (by omega), if_pos (by omega)]
    rfl
  · refine v_aload_n (n := 63) xB_172 dX11_after_62 rfl rfl ?_
    refine v_call_v (n := 66) xB_172 dX11_after_63 xO_172 iv_11_349 rfl (sh_81 _ _ _) rfl rfl rfl ?_
    refine c_save (by omega) b1 ?_
    (try simp (disch := omega) only [sA_same, sA_ne, sA_sA, sA_sr, sB_s, ud_eq, ud_ne, ud_ud, ud_sr, uB_s, Int.add_zero, Int.reduceAdd])
    refine v_aload_n (n := 67) xB_172 dX11_after_66 rfl rfl ?_
    refine v_iload_n (n := 68) xB_172 dX11_after_67 rfl rfl ?_
    refine v_iload_n (n := 69) xB_172 dX11_after_68 rfl rfl ?_
    refine v_call_v (n := 72) xB_172 dX11_after_69 xO_172 iv_11_346 rfl (sh_81 _ _ _) rfl rfl rfl ?_
    refine c_goRun (by omega) (by first | omega | (simp only [sA_same, sA_s, ud_s, Int.reduceEq, if_true, if_false, ite_true, ite_false, ↓reduceIte, and_true, true_and, eq_self, Int.add_zero, Int.reduceAdd]; omega) | (simp (disch := omega) only [sA_same, sA_ne, ud_eq, ud_ne, Int.add_zero, Int.reduceAdd]; omega)) (JR_s (fun a q1 q2 => by simp (disch := omega) only [sA_ne]) (jr (j) (by omega) (by omega))) (by first | omega | (simp only [sA_same, sA_s, ud_s, Int.reduceEq, if_true, if_false, ite_true, ite_false, ↓reduceIte, and_true, true_and, eq_self, Int.add_zero, Int.reduceAdd]; omega) | (simp (disch := omega) only [sA_same, sA_ne, ud_eq, ud_ne, Int.add_zero, Int.reduceAdd]; omega)) (by first | omega | (simp only [sA_same, sA_s, ud_s, Int.reduceEq, if_true, if_false, ite_true, ite_false, ↓reduceIte, and_true, true_and, eq_self, Int.add_zero, Int.reduceAdd]; omega) | (simp (disch := omega) only [sA_same, sA_ne, ud_eq, ud_ne, Int.add_zero, Int.reduceAdd]; omega)) (by first | omega | (simp only [sA_same, sA_s, ud_s, Int.reduceEq, if_true, if_false, ite_true, ite_false, ↓reduceIte, and_true, true_and, eq_self, Int.add_zero, Int.reduceAdd]; omega) | (simp (disch := omega) only [sA_same, sA_ne, ud_eq, ud_ne, Int.add_zero, Int.reduceAdd]; omega)) (by first | omega | (simp only [sA_same, sA_s, ud_s, Int.reduceEq, if_true, if_false, ite_true, ite_false, ↓reduceIte, and_true, true_and, eq_self, Int.add_zero, Int.reduceAdd]; omega) | (simp (disch := omega) only [sA_same, sA_ne, ud_eq, ud_ne, Int.add_zero, Int.reduceAdd]; omega)) (by simp (disch := omega) only [sA_same, sA_ne, sA_sA, sA_sr, sB_s, ud_eq, ud_ne, ud_ud, ud_sr, uB_s, Int.add_zero, Int.reduceAdd]; exact r1) (by simp (disch := omega) only [sA_same, sA_ne, sA_sA, sA_sr, sB_s, ud_eq, ud_ne, ud_ud, ud_sr, uB_s, Int.add_zero, Int.reduceAdd]; exact b1) (by simp (disch := omega) only [sA_same, sA_ne, sA_sA, sA_sr, sB_s, ud_eq, ud_ne, ud_ud, ud_sr, uB_s, Int.add_zero, Int.reduceAdd]; exact b2) (by simp (disch := omega) only [sA_same, sA_ne, sA_sA, sA_sr, sB_s, ud_eq, ud_ne, ud_ud, ud_sr, uB_s, Int.add_zero, Int.reduceAdd]; exact b5) (by simp (disch := omega) only [sA_same, sA_ne, sA_sA, sA_sr, sB_s, ud_eq, ud_ne, ud_ud, ud_sr, uB_s, Int.add_zero, Int.reduceAdd]; exact b3) (by simp (disch := omega) only [sA_same, sA_ne, sA_sA, sA_sr, sB_s, ud_eq, ud_ne, ud_ud, ud_sr, uB_s, Int.add_zero, Int.reduceAdd]; exact b6) (by simp (disch := omega) only [sA_same, sA_ne, sA_sA, sA_sr, sB_s, ud_eq, ud_ne, ud_ud, ud_sr, uB_s, Int.add_zero, Int.reduceAdd]; exact b4) (fun f95 sd od ns dn on nd c1 c2 c3 c4 c5 c6 c7 => ?_)
    (try simp (disch := omega) only [sA_same, sA_ne, sA_sA, sA_sr, sB_s, ud_eq, ud_ne, ud_ud, ud_sr, uB_s, Int.add_zero, Int.reduceAdd] at c7)
    have c8 : ∀ s, 0 ≤ s → s < m 81 22 → pkA sd dn s = RA m CF t (m 83 t) j s := fun s a b => by
      rw [c7 s a b]; unfold RA RQ; exact cF_congr (fun x a b => (pc_at s1 a b).symm) (fun _ _ _ => rfl) a b
    (try simp (disch := omega) only [sA_same, sA_ne, sA_sA, sA_sr, sB_s, ud_eq, ud_ne, ud_ud, ud_sr, uB_s, Int.add_zero, Int.reduceAdd])
    refine v_iload_n (n := 73) xB_172 dX11_after_72 rfl rfl ?_
    refine v_if_ne_y (t := 83) xB_172 dX11_after_73 (by decide) rfl (by first | omega | (simp only [sA_same, sA_s, ud_s, Int.reduceEq, if_true, if_false, ite_true, ite_false, ↓reduceIte, and_true, true_and, eq_self, Int.add_zero, Int.reduceAdd]; omega) | (simp (disch := omega) only [sA_same, sA_ne, ud_eq, ud_ne, Int.add_zero, Int.reduceAdd]; omega)) ?_
    refine v_iload_n (n := 84) xB_172 dX11_after_83 rfl rfl ?_
    refine v_iconst (n := 85) xB_172 dX11_after_84 ⟨by decide, by decide⟩ rfl ?_
    refine v_ic_ne_y (t := 95) xB_172 dX11_after_85 (by decide) rfl (by first | omega | (simp only [sA_same, sA_s, ud_s, Int.reduceEq, if_true, if_false, ite_true, ite_false, ↓reduceIte, and_true, true_and, eq_self, Int.add_zero, Int.reduceAdd]; omega) | (simp (disch := omega) only [sA_same, sA_ne, ud_eq, ud_ne, Int.add_zero, Int.reduceAdd]; omega)) ?_
    refine v_iload_n (n := 96) xB_172 dX11_after_95 rfl rfl ?_
    refine v_iconst (n := 97) xB_172 dX11_after_96 ⟨by decide, by decide⟩ rfl ?_
    refine v_ic_ne_n (n := 100) xB_172 dX11_after_97 (by decide) rfl (by first | omega | (simp only [sA_same, sA_s, ud_s, Int.reduceEq, if_true, if_false, ite_true, ite_false, ↓reduceIte, and_true, true_and, eq_self, Int.add_zero, Int.reduceAdd]; omega) | (simp (disch := omega) only [sA_same, sA_ne, ud_eq, ud_ne, Int.add_zero, Int.reduceAdd]; omega)) ?_
    refine v_aload_n (n := 101) xB_172 dX11_after_100 rfl rfl ?_
    refine v_bipush (n := 103) xB_172 dX11_after_101 ⟨by decide, by decide⟩ rfl ?_
    refine v_call_v (n := 106) xB_172 dX11_after_103 xO_172 iv_11_321 rfl (sh_81 _ _ _) rfl rfl rfl ?_
    refine c_sidesWith (by omega) (by first | omega | (simp only [sA_same, sA_s, ud_s, Int.reduceEq, if_true, if_false, ite_true, ite_false, ↓reduceIte, and_true, true_and, eq_self, Int.add_zero, Int.reduceAdd]; omega) | (simp (disch := omega) only [sA_same, sA_ne, ud_eq, ud_ne, Int.add_zero, Int.reduceAdd]; omega)) (by simp (disch := omega) only [sA_same, sA_ne, sA_sA, sA_sr, sB_s, ud_eq, ud_ne, ud_ud, ud_sr, uB_s, Int.add_zero, Int.reduceAdd]; exact c1) (by simp (disch := omega) only [sA_same, sA_ne, sA_sA, sA_sr, sB_s, ud_eq, ud_ne, ud_ud, ud_sr, uB_s, Int.add_zero, Int.reduceAdd]; exact c4) ?_
    refine v_goto (t := 142) xB_172 dX11_after_106 (by decide) rfl ?_
    refine v_istore4 (n := 144) xB_172 dX11_after_142 rfl rfl ?_
    refine v_aload_n (n := 145) xB_172 dX11_after_144 rfl rfl ?_
    refine v_call_v (n := 148) xB_172 dX11_after_145 xO_172 iv_11_352 rfl (sh_81 _ _ _) rfl rfl rfl ?_
    refine c_putBack (by omega) (by simp (disch := omega) only [sA_same, sA_ne, sA_sA, sA_sr, sB_s, ud_eq, ud_ne, ud_ud, ud_sr, uB_s, Int.add_zero, Int.reduceAdd]; exact (bl_ivl b1 b8 _ _)) ?_
    (try simp (disch := omega) only [sA_same, sA_ne, sA_sA, sA_sr, sB_s, ud_eq, ud_ne, ud_ud, ud_sr, uB_s, Int.add_zero, Int.reduceAdd])
    refine v_iload (n := 150) xB_172 dX11_after_148 rfl rfl ?_
    refine v_ireturn0 xB_172 dX11_after_150 xK_172 ?_
    (try simp (disch := omega) only [sA_same, sA_ne, sA_sA, sA_sr, sB_s, ud_eq, ud_ne, ud_ud, ud_sr, uB_s, Int.add_zero, Int.reduceAdd])
    refine q_eqI (o1 _ (q_R (fun k hk => by simp only [ud_s]; (repeat' split) <;> first | rfl | omega | (subst_vars; first | rfl | omega)) (bl_ivl (bl_ivl b1 b8 _ _) c1 _ _) (pgs_ivl (pgs_ivl b2 b7 _ _) c4 _ _) c5 c6 c2 c3 (pgs_ivl b2 b7 _ _) (bl_ivl b1 b8 _ _) (fun s a b => pkA_iv a b) rfl)) ?_
    unfold AF
    rw [if_neg (by omega), if_neg (by omega), if_neg (by omega), if_pos (by omega)]
    rw [swF_congr c8]
  · refine v_aload_n (n := 63) xB_172 dX11_after_62 rfl rfl ?_
    refine v_call_v (n := 66) xB_172 dX11_after_63 xO_172 iv_11_349 rfl (sh_81 _ _ _) rfl rfl rfl ?_
    refine c_save (by omega) b1 ?_
    (try simp (disch := omega) only [sA_same, sA_ne, sA_sA, sA_sr, sB_s, ud_eq, ud_ne, ud_ud, ud_sr, uB_s, Int.add_zero, Int.reduceAdd])
    refine v_aload_n (n := 67) xB_172 dX11_after_66 rfl rfl ?_
    refine v_iload_n (n := 68) xB_172 dX11_after_67 rfl rfl ?_
    refine v_iload_n (n := 69) xB_172 dX11_after_68 rfl rfl ?_
    refine v_call_v (n := 72) xB_172 dX11_after_69 xO_172 iv_11_346 rfl (sh_81 _ _ _) rfl rfl rfl ?_
    refine c_goRun (by omega) (by first | omega | (simp only [sA_same, sA_s, ud_s, Int.reduceEq, if_true, if_false, ite_true, ite_false, ↓reduceIte, and_true, true_and, eq_self, Int.add_zero, Int.reduceAdd]; omega) | (simp (disch := omega) only [sA_same, sA_ne, ud_eq, ud_ne, Int.add_zero, Int.reduceAdd]; omega)) (JR_s (fun a q1 q2 => by simp (disch := omega) only [sA_ne]) (jr (j) (by omega) (by omega))) (by first | omega | (simp only [sA_same, sA_s, ud_s, Int.reduceEq, if_true, if_false, ite_true, ite_false, ↓reduceIte, and_true, true_and, eq_self, Int.add_zero, Int.reduceAdd]; omega) | (simp (disch := omega) only [sA_same, sA_ne, ud_eq, ud_ne, Int.add_zero, Int.reduceAdd]; omega)) (by first | omega | (simp only [sA_same, sA_s, ud_s, Int.reduceEq, if_true, if_false, ite_true, ite_false, ↓reduceIte, and_true, true_and, eq_self, Int.add_zero, Int.reduceAdd]; omega) | (simp (disch := omega) only [sA_same, sA_ne, ud_eq, ud_ne, Int.add_zero, Int.reduceAdd]; omega)) (by first | omega | (simp only [sA_same, sA_s, ud_s, Int.reduceEq, if_true, if_false, ite_true, ite_false, ↓reduceIte, and_true, true_and, eq_self, Int.add_zero, Int.reduceAdd]; omega) | (simp (disch := omega) only [sA_same, sA_ne, ud_eq, ud_ne, Int.add_zero, Int.reduceAdd]; omega)) (by first | omega | (simp only [sA_same, sA_s, ud_s, Int.reduceEq, if_true, if_false, ite_true, ite_false, ↓reduceIte, and_true, true_and, eq_self, Int.add_zero, Int.reduceAdd]; omega) | (simp (disch := omega) only [sA_same, sA_ne, ud_eq, ud_ne, Int.add_zero, Int.reduceAdd]; omega)) (by simp (disch := omega) only [sA_same, sA_ne, sA_sA, sA_sr, sB_s, ud_eq, ud_ne, ud_ud, ud_sr, uB_s, Int.add_zero, Int.reduceAdd]; exact r1) (by simp (disch := omega) only [sA_same, sA_ne, sA_sA, sA_sr, sB_s, ud_eq, ud_ne, ud_ud, ud_sr, uB_s, Int.add_zero, Int.reduceAdd]; exact b1) (by simp (disch := omega) only [sA_same, sA_ne, sA_sA, sA_sr, sB_s, ud_eq, ud_ne, ud_ud, ud_sr, uB_s, Int.add_zero, Int.reduceAdd]; exact b2) (by simp (disch := omega) only [sA_same, sA_ne, sA_sA, sA_sr, sB_s, ud_eq, ud_ne, ud_ud, ud_sr, uB_s, Int.add_zero, Int.reduceAdd]; exact b5) (by simp (disch := omega) only [sA_same, sA_ne, sA_sA, sA_sr, sB_s, ud_eq, ud_ne, ud_ud, ud_sr, uB_s, Int.add_zero, Int.reduceAdd]; exact b3) (by simp (disch := omega) only [sA_same, sA_ne, sA_sA, sA_sr, sB_s, ud_eq, ud_ne, ud_ud, ud_sr, uB_s, Int.add_zero, Int.reduceAdd]; exact b6) (by simp (disch := omega) only [sA_same, sA_ne, sA_sA, sA_sr, sB_s, ud_eq, ud_ne, ud_ud, ud_sr, uB_s, Int.add_zero, Int.reduceAdd]; exact b4) (fun f95 sd od ns dn on nd c1 c2 c3 c4 c5 c6 c7 => ?_)
    (try simp (disch := omega) only [sA_same, sA_ne, sA_sA, sA_sr, sB_s, ud_eq, ud_ne, ud_ud, ud_sr, uB_s, Int.add_zero, Int.reduceAdd] at c7)
    have c8 : ∀ s, 0 ≤ s → s < m 81 22 → pkA sd dn s = RA m CF t (m 83 t) j s := fun s a b => by
      rw [c7 s a b]; unfold RA RQ; exact cF_congr (fun x a b => (pc_at s1 a b).symm) (fun _ _ _ => rfl) a b
    (try simp (disch := omega) only [sA_same, sA_ne, sA_sA, sA_sr, sB_s, ud_eq, ud_ne, ud_ud, ud_sr, uB_s, Int.add_zero, Int.reduceAdd])
    refine v_iload_n (n := 73) xB_172 dX11_after_72 rfl rfl ?_
    refine v_if_ne_y (t := 83) xB_172 dX11_after_73 (by decide) rfl (by first | omega | (simp only [sA_same, sA_s, ud_s, Int.reduceEq, if_true, if_false, ite_true, ite_false, ↓reduceIte, and_true, true_and, eq_self, Int.add_zero, Int.reduceAdd]; omega) | (simp (disch := omega) only [sA_same, sA_ne, ud_eq, ud_ne, Int.add_zero, Int.reduceAdd]; omega)) ?_
    refine v_iload_n (n := 84) xB_172 dX11_after_83 rfl rfl ?_
    refine v_iconst (n := 85) xB_172 dX11_after_84 ⟨by decide, by decide⟩ rfl ?_
    refine v_ic_ne_y (t := 95) xB_172 dX11_after_85 (by decide) rfl (by first | omega | (simp only [sA_same, sA_s, ud_s, Int.reduceEq, if_true, if_false, ite_true, ite_false, ↓reduceIte, and_true, true_and, eq_self, Int.add_zero, Int.reduceAdd]; omega) | (simp (disch := omega) only [sA_same, sA_ne, ud_eq, ud_ne, Int.add_zero, Int.reduceAdd]; omega)) ?_
    refine v_iload_n (n := 96) xB_172 dX11_after_95 rfl rfl ?_
    refine v_iconst (n := 97) xB_172 dX11_after_96 ⟨by decide, by decide⟩ rfl ?_
    refine v_ic_ne_y (t := 109) xB_172 dX11_after_97 (by decide) rfl (by first | omega | (simp only [sA_same, sA_s, ud_s, Int.reduceEq, if_true, if_false, ite_true, ite_false, ↓reduceIte, and_true, true_and, eq_self, Int.add_zero, Int.reduceAdd]; omega) | (simp (disch := omega) only [sA_same, sA_ne, ud_eq, ud_ne, Int.add_zero, Int.reduceAdd]; omega)) ?_
    refine v_iload_n (n := 110) xB_172 dX11_after_109 rfl rfl ?_
    refine v_bipush (n := 112) xB_172 dX11_after_110 ⟨by decide, by decide⟩ rfl ?_
    refine v_ic_ge_n (n := 115) xB_172 dX11_after_112 (by decide) rfl (by first | omega | (simp only [sA_same, sA_s, ud_s, Int.reduceEq, if_true, if_false, ite_true, ite_false, ↓reduceIte, and_true, true_and, eq_self, Int.add_zero, Int.reduceAdd]; omega) | (simp (disch := omega) only [sA_same, sA_ne, ud_eq, ud_ne, Int.add_zero, Int.reduceAdd]; omega)) ?_
    refine v_aload_n (n := 116) xB_172 dX11_after_115 rfl rfl ?_
    refine v_gf_s (n := 119) (kz := 23) xB_172 dX11_after_116 xO_172 fl_11_81 fg_11_23 (sh_81 _ _ _) rfl st_81_23 rfl ?_
    refine v_iconst (n := 120) xB_172 dX11_after_119 ⟨by decide, by decide⟩ rfl ?_
    refine v_iload_n (n := 121) xB_172 dX11_after_120 rfl rfl ?_
    refine v_bipush (n := 123) xB_172 dX11_after_121 ⟨by decide, by decide⟩ rfl ?_
    refine v_isub (n := 124) xB_172 dX11_after_123 (by first | omega | (simp only [sA_same, sA_s, ud_s, Int.reduceEq, if_true, if_false, ite_true, ite_false, ↓reduceIte, and_true, true_and, eq_self, Int.add_zero, Int.reduceAdd]; omega) | (simp (disch := omega) only [sA_same, sA_ne, ud_eq, ud_ne, Int.add_zero, Int.reduceAdd]; omega)) rfl ?_
    refine v_imul (n := 125) xB_172 dX11_after_124 (by first | omega | (simp only [sA_same, sA_s, ud_s, Int.reduceEq, if_true, if_false, ite_true, ite_false, ↓reduceIte, and_true, true_and, eq_self, Int.add_zero, Int.reduceAdd]; omega) | (simp (disch := omega) only [sA_same, sA_ne, ud_eq, ud_ne, Int.add_zero, Int.reduceAdd]; omega)) rfl ?_
    refine v_iaload (n := 126) (lz := 24) xB_172 dX11_after_125 (sh_96 _ _ _) rfl (by first | omega | (simp only [sA_same, sA_s, ud_s, Int.reduceEq, if_true, if_false, ite_true, ite_false, ↓reduceIte, and_true, true_and, eq_self, Int.add_zero, Int.reduceAdd]; omega) | (simp (disch := omega) only [sA_same, sA_ne, ud_eq, ud_ne, Int.add_zero, Int.reduceAdd]; omega)) rfl ?_
    refine v_goto (t := 142) xB_172 dX11_after_126 (by decide) rfl ?_
    refine v_istore4 (n := 144) xB_172 dX11_after_142 rfl rfl ?_
    refine v_aload_n (n := 145) xB_172 dX11_after_144 rfl rfl ?_
    refine v_call_v (n := 148) xB_172 dX11_after_145 xO_172 iv_11_352 rfl (sh_81 _ _ _) rfl rfl rfl ?_
    refine c_putBack (by omega) (by simp (disch := omega) only [sA_same, sA_ne, sA_sA, sA_sr, sB_s, ud_eq, ud_ne, ud_ud, ud_sr, uB_s, Int.add_zero, Int.reduceAdd]; exact (bl_ivl b1 b8 _ _)) ?_
    (try simp (disch := omega) only [sA_same, sA_ne, sA_sA, sA_sr, sB_s, ud_eq, ud_ne, ud_ud, ud_sr, uB_s, Int.add_zero, Int.reduceAdd])
    refine v_iload (n := 150) xB_172 dX11_after_148 rfl rfl ?_
    refine v_ireturn0 xB_172 dX11_after_150 xK_172 ?_
    (try simp (disch := omega) only [sA_same, sA_ne, sA_sA, sA_sr, sB_s, ud_eq, ud_ne, ud_ud, ud_sr, uB_s, Int.add_zero, Int.reduceAdd])
    refine q_eqI (o1 _ (q_R (fun k hk => by simp only [ud_s]; (repeat' split) <;> first | rfl | omega | (subst_vars; first | rfl | omega)) (bl_ivl (bl_ivl b1 b8 _ _) c1 _ _) (pgs_ivl (pgs_ivl b2 b7 _ _) c4 _ _) c5 c6 c2 c3 (pgs_ivl b2 b7 _ _) (bl_ivl b1 b8 _ _) (fun s a b => pkA_iv a b) rfl)) ?_
    unfold AF
    rw [if_neg (by omega), if_neg (by omega), if_neg (by omega), if_neg (by omega), if_pos (by omega)]
    exact (pgk_sd c1 c4 c8 (by omega) (by omega)).symm
  · refine v_aload_n (n := 63) xB_172 dX11_after_62 rfl rfl ?_
    refine v_call_v (n := 66) xB_172 dX11_after_63 xO_172 iv_11_349 rfl (sh_81 _ _ _) rfl rfl rfl ?_
    refine c_save (by omega) b1 ?_
    (try simp (disch := omega) only [sA_same, sA_ne, sA_sA, sA_sr, sB_s, ud_eq, ud_ne, ud_ud, ud_sr, uB_s, Int.add_zero, Int.reduceAdd])
    refine v_aload_n (n := 67) xB_172 dX11_after_66 rfl rfl ?_
    refine v_iload_n (n := 68) xB_172 dX11_after_67 rfl rfl ?_
    refine v_iload_n (n := 69) xB_172 dX11_after_68 rfl rfl ?_
    refine v_call_v (n := 72) xB_172 dX11_after_69 xO_172 iv_11_346 rfl (sh_81 _ _ _) rfl rfl rfl ?_
    refine c_goRun (by omega) (by first | omega | (simp only [sA_same, sA_s, ud_s, Int.reduceEq, if_true, if_false, ite_true, ite_false, ↓reduceIte, and_true, true_and, eq_self, Int.add_zero, Int.reduceAdd]; omega) | (simp (disch := omega) only [sA_same, sA_ne, ud_eq, ud_ne, Int.add_zero, Int.reduceAdd]; omega)) (JR_s (fun a q1 q2 => by simp (disch := omega) only [sA_ne]) (jr (j) (by omega) (by omega))) (by first | omega | (simp only [sA_same, sA_s, ud_s, Int.reduceEq, if_true, if_false, ite_true, ite_false, ↓reduceIte, and_true, true_and, eq_self, Int.add_zero, Int.reduceAdd]; omega) | (simp (disch := omega) only [sA_same, sA_ne, ud_eq, ud_ne, Int.add_zero, Int.reduceAdd]; omega)) (by first | omega | (simp only [sA_same, sA_s, ud_s, Int.reduceEq, if_true, if_false, ite_true, ite_false, ↓reduceIte, and_true, true_and, eq_self, Int.add_zero, Int.reduceAdd]; omega) | (simp (disch := omega) only [sA_same, sA_ne, ud_eq, ud_ne, Int.add_zero, Int.reduceAdd]; omega)) (by first | omega | (simp only [sA_same, sA_s, ud_s, Int.reduceEq, if_true, if_false, ite_true, ite_false, ↓reduceIte, and_true, true_and, eq_self, Int.add_zero, Int.reduceAdd]; omega) | (simp (disch := omega) only [sA_same, sA_ne, ud_eq, ud_ne, Int.add_zero, Int.reduceAdd]; omega)) (by first | omega | (simp only [sA_same, sA_s, ud_s, Int.reduceEq, if_true, if_false, ite_true, ite_false, ↓reduceIte, and_true, true_and, eq_self, Int.add_zero, Int.reduceAdd]; omega) | (simp (disch := omega) only [sA_same, sA_ne, ud_eq, ud_ne, Int.add_zero, Int.reduceAdd]; omega)) (by simp (disch := omega) only [sA_same, sA_ne, sA_sA, sA_sr, sB_s, ud_eq, ud_ne, ud_ud, ud_sr, uB_s, Int.add_zero, Int.reduceAdd]; exact r1) (by simp (disch := omega) only [sA_same, sA_ne, sA_sA, sA_sr, sB_s, ud_eq, ud_ne, ud_ud, ud_sr, uB_s, Int.add_zero, Int.reduceAdd]; exact b1) (by simp (disch := omega) only [sA_same, sA_ne, sA_sA, sA_sr, sB_s, ud_eq, ud_ne, ud_ud, ud_sr, uB_s, Int.add_zero, Int.reduceAdd]; exact b2) (by simp (disch := omega) only [sA_same, sA_ne, sA_sA, sA_sr, sB_s, ud_eq, ud_ne, ud_ud, ud_sr, uB_s, Int.add_zero, Int.reduceAdd]; exact b5) (by simp (disch := omega) only [sA_same, sA_ne, sA_sA, sA_sr, sB_s, ud_eq, ud_ne, ud_ud, ud_sr, uB_s, Int.add_zero, Int.reduceAdd]; exact b3) (by simp (disch := omega) only [sA_same, sA_ne, sA_sA, sA_sr, sB_s, ud_eq, ud_ne, ud_ud, ud_sr, uB_s, Int.add_zero, Int.reduceAdd]; exact b6) (by simp (disch := omega) only [sA_same, sA_ne, sA_sA, sA_sr, sB_s, ud_eq, ud_ne, ud_ud, ud_sr, uB_s, Int.add_zero, Int.reduceAdd]; exact b4) (fun f95 sd od ns dn on nd c1 c2 c3 c4 c5 c6 c7 => ?_)
    (try simp (disch := omega) only [sA_same, sA_ne, sA_sA, sA_sr, sB_s, ud_eq, ud_ne, ud_ud, ud_sr, uB_s, Int.add_zero, Int.reduceAdd] at c7)
    have c8 : ∀ s, 0 ≤ s → s < m 81 22 → pkA sd dn s = RA m CF t (m 83 t) j s := fun s a b => by
      rw [c7 s a b]; unfold RA RQ; exact cF_congr (fun x a b => (pc_at s1 a b).symm) (fun _ _ _ => rfl) a b
    (try simp (disch := omega) only [sA_same, sA_ne, sA_sA, sA_sr, sB_s, ud_eq, ud_ne, ud_ud, ud_sr, uB_s, Int.add_zero, Int.reduceAdd])
    refine v_iload_n (n := 73) xB_172 dX11_after_72 rfl rfl ?_
    refine v_if_ne_y (t := 83) xB_172 dX11_after_73 (by decide) rfl (by first | omega | (simp only [sA_same, sA_s, ud_s, Int.reduceEq, if_true, if_false, ite_true, ite_false, ↓reduceIte, and_true, true_and, eq_self, Int.add_zero, Int.reduceAdd]; omega) | (simp (disch := omega) only [sA_same, sA_ne, ud_eq, ud_ne, Int.add_zero, Int.reduceAdd]; omega)) ?_
    refine v_iload_n (n := 84) xB_172 dX11_after_83 rfl rfl ?_
    refine v_iconst (n := 85) xB_172 dX11_after_84 ⟨by decide, by decide⟩ rfl ?_
    refine v_ic_ne_y (t := 95) xB_172 dX11_after_85 (by decide) rfl (by first | omega | (simp only [sA_same, sA_s, ud_s, Int.reduceEq, if_true, if_false, ite_true, ite_false, ↓reduceIte, and_true, true_and, eq_self, Int.add_zero, Int.reduceAdd]; omega) | (simp (disch := omega) only [sA_same, sA_ne, ud_eq, ud_ne, Int.add_zero, Int.reduceAdd]; omega)) ?_
    refine v_iload_n (n := 96) xB_172 dX11_after_95 rfl rfl ?_
    refine v_iconst (n := 97) xB_172 dX11_after_96 ⟨by decide, by decide⟩ rfl ?_
    refine v_ic_ne_y (t := 109) xB_172 dX11_after_97 (by decide) rfl (by first | omega | (simp only [sA_same, sA_s, ud_s, Int.reduceEq, if_true, if_false, ite_true, ite_false, ↓reduceIte, and_true, true_and, eq_self, Int.add_zero, Int.reduceAdd]; omega) | (simp (disch := omega) only [sA_same, sA_ne, ud_eq, ud_ne, Int.add_zero, Int.reduceAdd]; omega)) ?_
    refine v_iload_n (n := 110) xB_172 dX11_after_109 rfl rfl ?_
    refine v_bipush (n := 112) xB_172 dX11_after_110 ⟨by decide, by decide⟩ rfl ?_
    refine v_ic_ge_y (t := 129) xB_172 dX11_after_112 (by decide) rfl (by first | omega | (simp only [sA_same, sA_s, ud_s, Int.reduceEq, if_true, if_false, ite_true, ite_false, ↓reduceIte, and_true, true_and, eq_self, Int.add_zero, Int.reduceAdd]; omega) | (simp (disch := omega) only [sA_same, sA_ne, ud_eq, ud_ne, Int.add_zero, Int.reduceAdd]; omega)) ?_
    refine v_aload_n (n := 130) xB_172 dX11_after_129 rfl rfl ?_
    refine v_gf_s (n := 133) (kz := 23) xB_172 dX11_after_130 xO_172 fl_11_81 fg_11_23 (sh_81 _ _ _) rfl st_81_23 rfl ?_
    refine v_iconst (n := 134) xB_172 dX11_after_133 ⟨by decide, by decide⟩ rfl ?_
    refine v_iload_n (n := 135) xB_172 dX11_after_134 rfl rfl ?_
    refine v_bipush (n := 137) xB_172 dX11_after_135 ⟨by decide, by decide⟩ rfl ?_
    refine v_isub (n := 138) xB_172 dX11_after_137 (by first | omega | (simp only [sA_same, sA_s, ud_s, Int.reduceEq, if_true, if_false, ite_true, ite_false, ↓reduceIte, and_true, true_and, eq_self, Int.add_zero, Int.reduceAdd]; omega) | (simp (disch := omega) only [sA_same, sA_ne, ud_eq, ud_ne, Int.add_zero, Int.reduceAdd]; omega)) rfl ?_
    refine v_imul (n := 139) xB_172 dX11_after_138 (by first | omega | (simp only [sA_same, sA_s, ud_s, Int.reduceEq, if_true, if_false, ite_true, ite_false, ↓reduceIte, and_true, true_and, eq_self, Int.add_zero, Int.reduceAdd]; omega) | (simp (disch := omega) only [sA_same, sA_ne, ud_eq, ud_ne, Int.add_zero, Int.reduceAdd]; omega)) rfl ?_
    refine v_iconst (n := 140) xB_172 dX11_after_139 ⟨by decide, by decide⟩ rfl ?_
    refine v_iadd (n := 141) xB_172 dX11_after_140 (by first | omega | (simp only [sA_same, sA_s, ud_s, Int.reduceEq, if_true, if_false, ite_true, ite_false, ↓reduceIte, and_true, true_and, eq_self, Int.add_zero, Int.reduceAdd]; omega) | (simp (disch := omega) only [sA_same, sA_ne, ud_eq, ud_ne, Int.add_zero, Int.reduceAdd]; omega)) rfl ?_
    refine v_iaload (n := 142) (lz := 24) xB_172 dX11_after_141 (sh_96 _ _ _) rfl (by first | omega | (simp only [sA_same, sA_s, ud_s, Int.reduceEq, if_true, if_false, ite_true, ite_false, ↓reduceIte, and_true, true_and, eq_self, Int.add_zero, Int.reduceAdd]; omega) | (simp (disch := omega) only [sA_same, sA_ne, ud_eq, ud_ne, Int.add_zero, Int.reduceAdd]; omega)) rfl ?_
    refine v_istore4 (n := 144) xB_172 dX11_after_142 rfl rfl ?_
    refine v_aload_n (n := 145) xB_172 dX11_after_144 rfl rfl ?_
    refine v_call_v (n := 148) xB_172 dX11_after_145 xO_172 iv_11_352 rfl (sh_81 _ _ _) rfl rfl rfl ?_
    refine c_putBack (by omega) (by simp (disch := omega) only [sA_same, sA_ne, sA_sA, sA_sr, sB_s, ud_eq, ud_ne, ud_ud, ud_sr, uB_s, Int.add_zero, Int.reduceAdd]; exact (bl_ivl b1 b8 _ _)) ?_
    (try simp (disch := omega) only [sA_same, sA_ne, sA_sA, sA_sr, sB_s, ud_eq, ud_ne, ud_ud, ud_sr, uB_s, Int.add_zero, Int.reduceAdd])
    refine v_iload (n := 150) xB_172 dX11_after_148 rfl rfl ?_
    refine v_ireturn0 xB_172 dX11_after_150 xK_172 ?_
    (try simp (disch := omega) only [sA_same, sA_ne, sA_sA, sA_sr, sB_s, ud_eq, ud_ne, ud_ud, ud_sr, uB_s, Int.add_zero, Int.reduceAdd])
    refine q_eqI (o1 _ (q_R (fun k hk => by simp only [ud_s]; (repeat' split) <;> first | rfl | omega | (subst_vars; first | rfl | omega)) (bl_ivl (bl_ivl b1 b8 _ _) c1 _ _) (pgs_ivl (pgs_ivl b2 b7 _ _) c4 _ _) c5 c6 c2 c3 (pgs_ivl b2 b7 _ _) (bl_ivl b1 b8 _ _) (fun s a b => pkA_iv a b) rfl)) ?_
    unfold AF
    rw [if_neg (by omega), if_neg (by omega), if_neg (by omega), if_neg (by omega), if_neg (by omega), if_pos (by omega)]
    exact (pgk_sd c1 c4 c8 (by omega) (by omega)).symm
set_option maxHeartbeats 1000000 in
theorem c_after {d : Nat} {CF : Int → CLs} {t j w : Int} {m : PM} {dy : List (Nat × Nat)} {L : Nat} {Q : Option PV → PS → Prop} (hd : 6 ≤ d) (hR : RI m CF) (o1 : ∀ m' : PM, RFr m m' → Q (some (.inl (AF m CF t j w))) (m', (none, (dy, L)))) : C d 172 [.inr (.inr 81), .inl t, .inl j, .inl w] (m, (none, (dy, L))) Q := by
  refine C_go (k := 5) hd xL_172 (fun d hd => ?_)
  show V d 172 (0, ([some (.inr (.inr 81)), some (.inl t), some (.inl j), some (.inl w), none], ([], (m, (none, (dy, L)))))) Q
  obtain ⟨s1, t1, j1, ⟨b1, b2, b3, b4, b5, b6, b7, b8⟩, r1, v1, ⟨u1, u2⟩, jr⟩ := hR
  have hR0 : RI m CF := ⟨s1, t1, j1, ⟨b1, b2, b3, b4, b5, b6, b7, b8⟩, r1, v1, ⟨u1, u2⟩, jr⟩
  refine v_aload_n (n := 1) xB_172 dX11_after_0 rfl rfl ?_
  refine v_iload_n (n := 2) xB_172 dX11_after_1 rfl rfl ?_
  refine v_call_v (n := 5) xB_172 dX11_after_2 xO_172 iv_11_225 rfl (sh_81 _ _ _) rfl rfl rfl ?_
  refine c_isTray (by omega) (by first | omega | (simp only [sA_same, sA_s, ud_s, Int.reduceEq, if_true, if_false, ite_true, ite_false, ↓reduceIte, and_true, true_and, eq_self, Int.add_zero, Int.reduceAdd]; omega) | (simp (disch := omega) only [sA_same, sA_ne, ud_eq, ud_ne, Int.add_zero, Int.reduceAdd]; omega)) (fun g1 => ?_) (fun g2 => ?_)
  · refine v_if_eq_n (n := 8) xB_172 dX11_after_5 (by decide) rfl (by decide) ?_
    refine v_aload_n (n := 9) xB_172 dX11_after_8 rfl rfl ?_
    refine v_iload_n (n := 10) xB_172 dX11_after_9 rfl rfl ?_
    refine v_call_v (n := 13) xB_172 dX11_after_10 xO_172 iv_11_283 rfl (sh_81 _ _ _) rfl rfl rfl ?_
    refine c_isJob (by omega) (by first | omega | (simp only [sA_same, sA_s, ud_s, Int.reduceEq, if_true, if_false, ite_true, ite_false, ↓reduceIte, and_true, true_and, eq_self, Int.add_zero, Int.reduceAdd]; omega) | (simp (disch := omega) only [sA_same, sA_ne, ud_eq, ud_ne, Int.add_zero, Int.reduceAdd]; omega)) (fun g3 => ?_) (fun g4 => ?_)
    · refine v_if_eq_n (n := 16) xB_172 dX11_after_13 (by decide) rfl (by decide) ?_
      refine v_aload_n (n := 17) xB_172 dX11_after_16 rfl rfl ?_
      refine v_iload_n (n := 18) xB_172 dX11_after_17 rfl rfl ?_
      refine v_iconst (n := 19) xB_172 dX11_after_18 ⟨by decide, by decide⟩ rfl ?_
      refine v_iconst (n := 20) xB_172 dX11_after_19 ⟨by decide, by decide⟩ rfl ?_
      refine v_call_v (n := 23) xB_172 dX11_after_20 xO_172 iv_11_221 rfl (sh_81 _ _ _) rfl rfl rfl ?_
      refine c_in (by omega)  (fun g5 => ?_) (fun g6 => ?_)
      · refine v_if_ne_y (t := 62) xB_172 dX11_after_23 (by decide) rfl (by decide) ?_
        exact vc_after (by omega) hR0 (by omega) (by omega) (by omega) _ o1
      · refine v_if_ne_n (n := 26) xB_172 dX11_after_23 (by decide) rfl (by decide) ?_
        refine v_aload_n (n := 27) xB_172 dX11_after_26 rfl rfl ?_
        refine v_iload_n (n := 28) xB_172 dX11_after_27 rfl rfl ?_
        refine v_bipush (n := 30) xB_172 dX11_after_28 ⟨by decide, by decide⟩ rfl ?_
        refine v_bipush (n := 32) xB_172 dX11_after_30 ⟨by decide, by decide⟩ rfl ?_
        refine v_aload_n (n := 33) xB_172 dX11_after_32 rfl rfl ?_
        refine v_gf_i (n := 36) (kz := 22) xB_172 dX11_after_33 xO_172 fl_11_78 fg_11_22 rfl (sh_81 _ _ _) rfl rfl ?_
        refine v_iadd (n := 37) xB_172 dX11_after_36 (by first | omega | (simp only [sA_same, sA_s, ud_s, Int.reduceEq, if_true, if_false, ite_true, ite_false, ↓reduceIte, and_true, true_and, eq_self, Int.add_zero, Int.reduceAdd]; omega) | (simp (disch := omega) only [sA_same, sA_ne, ud_eq, ud_ne, Int.add_zero, Int.reduceAdd]; omega)) rfl ?_
        refine v_call_v (n := 40) xB_172 dX11_after_37 xO_172 iv_11_221 rfl (sh_81 _ _ _) rfl rfl rfl ?_
        refine c_in (by omega)  (fun g7 => ?_) (fun g8 => ?_)
        · refine v_if_ne_y (t := 62) xB_172 dX11_after_40 (by decide) rfl (by decide) ?_
          exact vc_after (by omega) hR0 (by omega) (by omega) (by omega) _ o1
        · refine v_if_ne_n (n := 43) xB_172 dX11_after_40 (by decide) rfl (by decide) ?_
          refine v_aload_n (n := 44) xB_172 dX11_after_43 rfl rfl ?_
          refine v_iload_n (n := 45) xB_172 dX11_after_44 rfl rfl ?_
          refine v_bipush (n := 47) xB_172 dX11_after_45 ⟨by decide, by decide⟩ rfl ?_
          refine v_bipush (n := 49) xB_172 dX11_after_47 ⟨by decide, by decide⟩ rfl ?_
          refine v_aload_n (n := 50) xB_172 dX11_after_49 rfl rfl ?_
          refine v_gf_i (n := 53) (kz := 22) xB_172 dX11_after_50 xO_172 fl_11_78 fg_11_22 rfl (sh_81 _ _ _) rfl rfl ?_
          refine v_iadd (n := 54) xB_172 dX11_after_53 (by first | omega | (simp only [sA_same, sA_s, ud_s, Int.reduceEq, if_true, if_false, ite_true, ite_false, ↓reduceIte, and_true, true_and, eq_self, Int.add_zero, Int.reduceAdd]; omega) | (simp (disch := omega) only [sA_same, sA_ne, ud_eq, ud_ne, Int.add_zero, Int.reduceAdd]; omega)) rfl ?_
          refine v_call_v (n := 57) xB_172 dX11_after_54 xO_172 iv_11_221 rfl (sh_81 _ _ _) rfl rfl rfl ?_
          refine c_in (by omega)  (fun g9 => ?_) (fun g10 => ?_)
          · refine v_if_ne_y (t := 62) xB_172 dX11_after_57 (by decide) rfl (by decide) ?_
            exact vc_after (by omega) hR0 (by omega) (by omega) (by omega) _ o1
          · refine v_if_ne_n (n := 60) xB_172 dX11_after_57 (by decide) rfl (by decide) ?_
            refine v_iconst (n := 61) xB_172 dX11_after_60 ⟨by decide, by decide⟩ rfl ?_
            refine v_ireturn0 xB_172 dX11_after_61 xK_172 ?_
            refine q_eqI (o1 _ (RI_refl hR0)) ?_; unfold AF; first | (rw [if_pos (by omega)]; done) | (rw [if_neg (by omega), if_neg (by omega), if_neg (by omega), if_neg (by omega), if_neg (by omega), if_neg (by omega)]; done)
    · refine v_if_eq_y (t := 60) xB_172 dX11_after_13 (by decide) rfl (by decide) ?_
      refine v_iconst (n := 61) xB_172 dX11_after_60 ⟨by decide, by decide⟩ rfl ?_
      refine v_ireturn0 xB_172 dX11_after_61 xK_172 ?_
      refine q_eqI (o1 _ (RI_refl hR0)) ?_; unfold AF; first | (rw [if_pos (by omega)]; done) | (rw [if_neg (by omega), if_neg (by omega), if_neg (by omega), if_neg (by omega), if_neg (by omega), if_neg (by omega)]; done)
  · refine v_if_eq_y (t := 60) xB_172 dX11_after_5 (by decide) rfl (by decide) ?_
    refine v_iconst (n := 61) xB_172 dX11_after_60 ⟨by decide, by decide⟩ rfl ?_
    refine v_ireturn0 xB_172 dX11_after_61 xK_172 ?_
    refine q_eqI (o1 _ (RI_refl hR0)) ?_; unfold AF; first | (rw [if_pos (by omega)]; done) | (rw [if_neg (by omega), if_neg (by omega), if_neg (by omega), if_neg (by omega), if_neg (by omega), if_neg (by omega)]; done)
theorem AF_0 {m : PM} {CF : Int → CLs} {t j : Int} (ht : 0 ≤ t ∧ t < m 81 0) (hj : 0 ≤ j ∧ j < m 81 5) : AF m CF t j 0 = RT m CF t j := by
  unfold AF; rw [if_neg (by omega), if_pos rfl]
set_option maxHeartbeats 1000000 in
theorem c_rightAfter {d : Nat} {CF : Int → CLs} {t j : Int} {m : PM} {dy : List (Nat × Nat)} {L : Nat} {Q : Option PV → PS → Prop} (hd : 7 ≤ d) (hR : RI m CF) (ht : 0 ≤ t ∧ t < m 81 0) (hj : 0 ≤ j ∧ j < m 81 5) (o1 : ∀ m' : PM, RFr m m' → Q (some (.inl (RT m CF t j))) (m', (none, (dy, L)))) : C d 173 [.inr (.inr 81), .inl t, .inl j] (m, (none, (dy, L))) Q := by
  refine C_go (k := 6) hd xL_173 (fun d hd => ?_)
  show V d 173 (0, ([some (.inr (.inr 81)), some (.inl t), some (.inl j)], ([], (m, (none, (dy, L)))))) Q
  refine v_aload_n (n := 1) xB_173 dX11_rightAfter_0 rfl rfl ?_
  refine v_iload_n (n := 2) xB_173 dX11_rightAfter_1 rfl rfl ?_
  refine v_iload_n (n := 3) xB_173 dX11_rightAfter_2 rfl rfl ?_
  refine v_iconst (n := 4) xB_173 dX11_rightAfter_3 ⟨by decide, by decide⟩ rfl ?_
  refine v_call_v (n := 7) xB_173 dX11_rightAfter_4 xO_173 iv_11_355 rfl (sh_81 _ _ _) rfl rfl rfl ?_
  refine c_after (by omega) hR (fun mA hA => ?_)
  refine v_ireturn0 xB_173 dX11_rightAfter_7 xK_173 ?_
  exact q_eqI (o1 _ hA) (AF_0 ht hj).symm
def bq (b : Bool) : Int := if b = true then 1 else 0
theorem bq1 {b : Bool} (h : ¬ bq b = 0) : b = true := by cases b; exact absurd rfl h; rfl
theorem bq0 {b : Bool} (h : bq b = 0) : b = false := by cases b; rfl; exact absurd h (by decide)
theorem bq_in (b : Bool) : bq b = 0 ∨ bq b = 1 := by cases b <;> simp [bq]
theorem seF_s {P : Int → Bool} {k : Int} (h : 0 ≤ k) : seF P (k + 1).toNat = (seF P k.toNat && P k) := by
  rw [show (k + 1).toNat = k.toNat + 1 by omega, seF, show ((k.toNat : Nat) : Int) = k by omega]
set_option maxHeartbeats 1000000 in
theorem c_isSeenAfter {d : Nat} {CF : Int → CLs} {t j : Int} {m : PM} {dy : List (Nat × Nat)} {L : Nat} {Q : Option PV → PS → Prop} (hd : 6 ≤ d) (hR : RI m CF) (ht : 0 ≤ t ∧ t < m 81 0) (hj : 0 ≤ j ∧ j < m 81 5) (o1 : ∀ m' : PM, RFr m m' → (SB m CF t (m 83 t) j = true) → Q (some (.inl 1)) (m', (none, (dy, L)))) (o2 : ∀ m' : PM, RFr m m' → (SB m CF t (m 83 t) j = false) → Q (some (.inl 0)) (m', (none, (dy, L)))) : C d 183 [.inr (.inr 81), .inl t, .inl j] (m, (none, (dy, L))) Q := by
  refine C_go (k := 5) hd xL_183 (fun d hd => ?_)
  show V d 183 (0, ([some (.inr (.inr 81)), some (.inl t), some (.inl j), none, none], ([], (m, (none, (dy, L)))))) Q
  obtain ⟨s1, t1, j1, ⟨b1, b2, b3, b4, b5, b6, b7, b8⟩, r1, v1, ⟨u1, u2⟩, jr⟩ := hR
  have hR0 : RI m CF := ⟨s1, t1, j1, ⟨b1, b2, b3, b4, b5, b6, b7, b8⟩, r1, v1, ⟨u1, u2⟩, jr⟩
  have v2 := v1 t (by omega) (by omega)
  refine v_aload_n (n := 1) xB_183 dX11_isSeenAfter_0 rfl rfl ?_
  refine v_call_v (n := 4) xB_183 dX11_isSeenAfter_1 xO_183 iv_11_349 rfl (sh_81 _ _ _) rfl rfl rfl ?_
  refine c_save (by omega) b1 ?_
  (try simp (disch := omega) only [sA_same, sA_ne, sA_sA, sA_sr, sB_s, ud_eq, ud_ne, ud_ud, ud_sr, uB_s, Int.add_zero, Int.reduceAdd])
  refine v_aload_n (n := 5) xB_183 dX11_isSeenAfter_4 rfl rfl ?_
  refine v_iload_n (n := 6) xB_183 dX11_isSeenAfter_5 rfl rfl ?_
  refine v_iload_n (n := 7) xB_183 dX11_isSeenAfter_6 rfl rfl ?_
  refine v_call_v (n := 10) xB_183 dX11_isSeenAfter_7 xO_183 iv_11_346 rfl (sh_81 _ _ _) rfl rfl rfl ?_
  refine c_goRun (by omega) (by first | omega | (simp only [sA_same, sA_s, ud_s, Int.reduceEq, if_true, if_false, ite_true, ite_false, ↓reduceIte, and_true, true_and, eq_self, Int.add_zero, Int.reduceAdd]; omega) | (simp (disch := omega) only [sA_same, sA_ne, ud_eq, ud_ne, Int.add_zero, Int.reduceAdd]; omega)) (JR_s (fun a q1 q2 => by simp (disch := omega) only [sA_ne]) (jr (j) (by omega) (by omega))) (by first | omega | (simp only [sA_same, sA_s, ud_s, Int.reduceEq, if_true, if_false, ite_true, ite_false, ↓reduceIte, and_true, true_and, eq_self, Int.add_zero, Int.reduceAdd]; omega) | (simp (disch := omega) only [sA_same, sA_ne, ud_eq, ud_ne, Int.add_zero, Int.reduceAdd]; omega)) (by first | omega | (simp only [sA_same, sA_s, ud_s, Int.reduceEq, if_true, if_false, ite_true, ite_false, ↓reduceIte, and_true, true_and, eq_self, Int.add_zero, Int.reduceAdd]; omega) | (simp (disch := omega) only [sA_same, sA_ne, ud_eq, ud_ne, Int.add_zero, Int.reduceAdd]; omega)) (by first | omega | (simp only [sA_same, sA_s, ud_s, Int.reduceEq, if_true, if_false, ite_true, ite_false, ↓reduceIte, and_true, true_and, eq_self, Int.add_zero, Int.reduceAdd]; omega) | (simp (disch := omega) only [sA_same, sA_ne, ud_eq, ud_ne, Int.add_zero, Int.reduceAdd]; omega)) (by first | omega | (simp only [sA_same, sA_s, ud_s, Int.reduceEq, if_true, if_false, ite_true, ite_false, ↓reduceIte, and_true, true_and, eq_self, Int.add_zero, Int.reduceAdd]; omega) | (simp (disch := omega) only [sA_same, sA_ne, ud_eq, ud_ne, Int.add_zero, Int.reduceAdd]; omega)) (by simp (disch := omega) only [sA_same, sA_ne, sA_sA, sA_sr, sB_s, ud_eq, ud_ne, ud_ud, ud_sr, uB_s, Int.add_zero, Int.reduceAdd]; exact r1) (by simp (disch := omega) only [sA_same, sA_ne, sA_sA, sA_sr, sB_s, ud_eq, ud_ne, ud_ud, ud_sr, uB_s, Int.add_zero, Int.reduceAdd]; exact b1) (by simp (disch := omega) only [sA_same, sA_ne, sA_sA, sA_sr, sB_s, ud_eq, ud_ne, ud_ud, ud_sr, uB_s, Int.add_zero, Int.reduceAdd]; exact b2) (by simp (disch := omega) only [sA_same, sA_ne, sA_sA, sA_sr, sB_s, ud_eq, ud_ne, ud_ud, ud_sr, uB_s, Int.add_zero, Int.reduceAdd]; exact b5) (by simp (disch := omega) only [sA_same, sA_ne, sA_sA, sA_sr, sB_s, ud_eq, ud_ne, ud_ud, ud_sr, uB_s, Int.add_zero, Int.reduceAdd]; exact b3) (by simp (disch := omega) only [sA_same, sA_ne, sA_sA, sA_sr, sB_s, ud_eq, ud_ne, ud_ud, ud_sr, uB_s, Int.add_zero, Int.reduceAdd]; exact b6) (by simp (disch := omega) only [sA_same, sA_ne, sA_sA, sA_sr, sB_s, ud_eq, ud_ne, ud_ud, ud_sr, uB_s, Int.add_zero, Int.reduceAdd]; exact b4) (fun f95 sd od ns dn on nd c1 c2 c3 c4 c5 c6 c7 => ?_)
  (try simp (disch := omega) only [sA_same, sA_ne, sA_sA, sA_sr, sB_s, ud_eq, ud_ne, ud_ud, ud_sr, uB_s, Int.add_zero, Int.reduceAdd] at c7)
  have c8 : ∀ s, 0 ≤ s → s < m 81 22 → pkA sd dn s = RA m CF t (m 83 t) j s := fun s a b => by
    rw [c7 s a b]; unfold RA RQ; exact cF_congr (fun x a b => (pc_at s1 a b).symm) (fun _ _ _ => rfl) a b
  (try simp (disch := omega) only [sA_same, sA_ne, sA_sA, sA_sr, sB_s, ud_eq, ud_ne, ud_ud, ud_sr, uB_s, Int.add_zero, Int.reduceAdd])
  refine v_iconst (n := 11) xB_183 dX11_isSeenAfter_10 ⟨by decide, by decide⟩ rfl ?_
  refine v_istore_n3 (n := 12) xB_183 dX11_isSeenAfter_11 rfl rfl ?_
  refine v_iconst (n := 13) xB_183 dX11_isSeenAfter_12 ⟨by decide, by decide⟩ rfl ?_
  refine v_istore4 (n := 15) xB_183 dX11_isSeenAfter_13 rfl rfl ?_
  (try simp (disch := omega) only [sA_same, sA_ne, sA_sA, sA_sr, sB_s, ud_eq, ud_ne, ud_ud, ud_sr, uB_s, Int.add_zero, Int.reduceAdd])
  refine lp_up (F := fun (k : Int) (m' : PM) => V d 183 (15, ([some (.inr (.inr 81)), some (.inl t), some (.inl j), some (.inl (bq (seF (fun k => decide (onQ (m 81 22) (RA m CF t (m 83 t) j) (m 104 k) = m 105 k)) (k).toNat))), some (.inl (k))], ([], (m', (none, (dy, L)))))) Q) (E := fun (k : Int) (m' : PM) => m' = setA (setA (setA (setA (setA (setA (setA (setA (setA (setA m 81 (ud (ud (ud (m 81) 29 (TQ m CF (m 81 22) t (m 83 t) j)) 30 (PQ m CF (m 81 22) t (m 83 t) j)) 31 (m 81 22))) 95 f95) 96 sd) 97 od) 98 ns) 99 dn) 100 on) 101 nd) 102 (ivl (m 96) (m 102) 0 24)) 103 (ivl (m 99) (m 103) 0 24)) (a := 0) (b := m 81 34) ?_ ?_ (0) (_) (by first | omega | (simp only [sA_same, sA_s, ud_s, Int.reduceEq, if_true, if_false, ite_true, ite_false, ↓reduceIte, and_true, true_and, eq_self, Int.add_zero, Int.reduceAdd]; omega) | (simp (disch := omega) only [sA_same, sA_ne, ud_eq, ud_ne, Int.add_zero, Int.reduceAdd]; omega)) (by first | omega | (simp only [sA_same, sA_s, ud_s, Int.reduceEq, if_true, if_false, ite_true, ite_false, ↓reduceIte, and_true, true_and, eq_self, Int.add_zero, Int.reduceAdd]; omega) | (simp (disch := omega) only [sA_same, sA_ne, ud_eq, ud_ne, Int.add_zero, Int.reduceAdd]; omega)) ?_
  · intro m' hm 
    show V d 183 (15, ([some (.inr (.inr 81)), some (.inl t), some (.inl j), some (.inl (bq (seF (fun k => decide (onQ (m 81 22) (RA m CF t (m 83 t) j) (m 104 k) = m 105 k)) (m 81 34).toNat))), some (.inl (m 81 34))], ([], (m', (none, (dy, L)))))) Q
    subst hm
    have w3 := bq_in (seF (fun k => decide (onQ (m 81 22) (RA m CF t (m 83 t) j) (m 104 k) = m 105 k)) (m 81 34).toNat)
    refine v_iload (n := 17) xB_183 dX11_isSeenAfter_15 rfl rfl ?_
    refine v_aload_n (n := 18) xB_183 dX11_isSeenAfter_17 rfl rfl ?_
    refine v_gf_i (n := 21) (kz := 34) xB_183 dX11_isSeenAfter_18 xO_183 fl_11_114 fg_11_34 rfl (sh_81 _ _ _) rfl rfl ?_
    refine v_ic_ge_y (t := 61) xB_183 dX11_isSeenAfter_21 (by decide) rfl (by first | omega | (simp only [sA_same, sA_s, ud_s, Int.reduceEq, if_true, if_false, ite_true, ite_false, ↓reduceIte, and_true, true_and, eq_self, Int.add_zero, Int.reduceAdd]; omega) | (simp (disch := omega) only [sA_same, sA_ne, ud_eq, ud_ne, Int.add_zero, Int.reduceAdd]; omega)) ?_
    refine v_aload_n (n := 62) xB_183 dX11_isSeenAfter_61 rfl rfl ?_
    refine v_call_v (n := 65) xB_183 dX11_isSeenAfter_62 xO_183 iv_11_352 rfl (sh_81 _ _ _) rfl rfl rfl ?_
    refine c_putBack (by omega) (by simp (disch := omega) only [sA_same, sA_ne, sA_sA, sA_sr, sB_s, ud_eq, ud_ne, ud_ud, ud_sr, uB_s, Int.add_zero, Int.reduceAdd]; exact (bl_ivl b1 b8 _ _)) ?_
    (try simp (disch := omega) only [sA_same, sA_ne, sA_sA, sA_sr, sB_s, ud_eq, ud_ne, ud_ud, ud_sr, uB_s, Int.add_zero, Int.reduceAdd])
    refine v_iload_n (n := 66) xB_183 dX11_isSeenAfter_65 rfl rfl ?_
    refine v_ireturn1 xB_183 dX11_isSeenAfter_66 xK_183 (by first | omega | (simp only [sA_same, sA_s, ud_s, Int.reduceEq, if_true, if_false, ite_true, ite_false, ↓reduceIte, and_true, true_and, eq_self, Int.add_zero, Int.reduceAdd]; omega) | (simp (disch := omega) only [sA_same, sA_ne, ud_eq, ud_ne, Int.add_zero, Int.reduceAdd]; omega)) ?_
    first
    | (have hb := bq1 (b := SB m CF t (m 83 t) j) (by omega); exact o1 _ (q_R (fun k hk => by simp only [ud_s]; (repeat' split) <;> first | rfl | omega | (subst_vars; first | rfl | omega)) (bl_ivl (bl_ivl b1 b8 _ _) c1 _ _) (pgs_ivl (pgs_ivl b2 b7 _ _) c4 _ _) c5 c6 c2 c3 (pgs_ivl b2 b7 _ _) (bl_ivl b1 b8 _ _) (fun s a b => pkA_iv a b) rfl) hb)
    | skip
    (try simp (disch := omega) only [sA_same, sA_ne, sA_sA, sA_sr, sB_s, ud_eq, ud_ne, ud_ud, ud_sr, uB_s, Int.add_zero, Int.reduceAdd])
    rcases hb : SB m CF t (m 83 t) j with _ | _
    · have hb2 : seF (fun k => decide (onQ (m 81 22) (RA m CF t (m 83 t) j) (m 104 k) = m 105 k)) (m 81 34).toNat = false := hb
      rw [hb2]; exact o2 _ (q_R (fun k hk => by simp only [ud_s]; (repeat' split) <;> first | rfl | omega | (subst_vars; first | rfl | omega)) (bl_ivl (bl_ivl b1 b8 _ _) c1 _ _) (pgs_ivl (pgs_ivl b2 b7 _ _) c4 _ _) c5 c6 c2 c3 (pgs_ivl b2 b7 _ _) (bl_ivl b1 b8 _ _) (fun s a b => pkA_iv a b) rfl) hb
    · have hb2 : seF (fun k => decide (onQ (m 81 22) (RA m CF t (m 83 t) j) (m 104 k) = m 105 k)) (m 81 34).toNat = true := hb
      rw [hb2]; exact o1 _ (q_R (fun k hk => by simp only [ud_s]; (repeat' split) <;> first | rfl | omega | (subst_vars; first | rfl | omega)) (bl_ivl (bl_ivl b1 b8 _ _) c1 _ _) (pgs_ivl (pgs_ivl b2 b7 _ _) c4 _ _) c5 c6 c2 c3 (pgs_ivl b2 b7 _ _) (bl_ivl b1 b8 _ _) (fun s a b => pkA_iv a b) rfl) hb
  · intro k m' h1 h2 hm ih 
    show V d 183 (15, ([some (.inr (.inr 81)), some (.inl t), some (.inl j), some (.inl (bq (seF (fun k => decide (onQ (m 81 22) (RA m CF t (m 83 t) j) (m 104 k) = m 105 k)) (k).toNat))), some (.inl (k))], ([], (m', (none, (dy, L)))))) Q
    subst hm
    have w2 := u2 k (by omega) (by omega)
    have w3 := bq_in (seF (fun k => decide (onQ (m 81 22) (RA m CF t (m 83 t) j) (m 104 k) = m 105 k)) k.toNat)
    refine v_iload (n := 17) xB_183 dX11_isSeenAfter_15 rfl rfl ?_
    refine v_aload_n (n := 18) xB_183 dX11_isSeenAfter_17 rfl rfl ?_
    refine v_gf_i (n := 21) (kz := 34) xB_183 dX11_isSeenAfter_18 xO_183 fl_11_114 fg_11_34 rfl (sh_81 _ _ _) rfl rfl ?_
    refine v_ic_ge_n (n := 24) xB_183 dX11_isSeenAfter_21 (by decide) rfl (by first | omega | (simp only [sA_same, sA_s, ud_s, Int.reduceEq, if_true, if_false, ite_true, ite_false, ↓reduceIte, and_true, true_and, eq_self, Int.add_zero, Int.reduceAdd]; omega) | (simp (disch := omega) only [sA_same, sA_ne, ud_eq, ud_ne, Int.add_zero, Int.reduceAdd]; omega)) ?_
    refine v_iload_n (n := 25) xB_183 dX11_isSeenAfter_24 rfl rfl ?_
    refine v_if_eq (t := 53) (n := 28) xB_183 dX11_isSeenAfter_25 (by decide) rfl rfl (fun g1 => ?_) (fun g1 => ?_)
    · (try simp (disch := omega) only [sA_same, sA_ne, sA_sA, sA_sr, sB_s, ud_eq, ud_ne, ud_ud, ud_sr, uB_s, Int.add_zero, Int.reduceAdd] at g1)
      refine v_iconst (n := 54) xB_183 dX11_isSeenAfter_53 ⟨by decide, by decide⟩ rfl ?_
      refine v_istore_n3 (n := 55) xB_183 dX11_isSeenAfter_54 rfl rfl ?_
      refine v_iinc4 (n := 58) xB_183 dX11_isSeenAfter_55 rfl (by first | omega | (simp only [sA_same, sA_s, ud_s, Int.reduceEq, if_true, if_false, ite_true, ite_false, ↓reduceIte, and_true, true_and, eq_self, Int.add_zero, Int.reduceAdd]; omega) | (simp (disch := omega) only [sA_same, sA_ne, ud_eq, ud_ne, Int.add_zero, Int.reduceAdd]; omega)) rfl ?_
      refine v_goto (t := 15) xB_183 dX11_isSeenAfter_58 (by decide) rfl ?_
      first
      | (have hb := bq1 (by assumption); have he : seF (fun k => decide (onQ (m 81 22) (RA m CF t (m 83 t) j) (m 104 k) = m 105 k)) (k + 1).toNat = decide (onQ (m 81 22) (RA m CF t (m 83 t) j) (m 104 k) = m 105 k) := by rw [seF_s (by omega), hb, Bool.true_and]
         first
         | (rw [decide_eq_true (by assumption)] at he; have i2 := ih _ rfl; rw [he] at i2; exact i2)
         | (rw [decide_eq_false (by assumption)] at he; have i2 := ih _ rfl; rw [he] at i2; exact i2))
      | (have hb := bq0 (by assumption); have he : seF (fun k => decide (onQ (m 81 22) (RA m CF t (m 83 t) j) (m 104 k) = m 105 k)) (k + 1).toNat = false := by rw [seF_s (by omega), hb, Bool.false_and]
         have i2 := ih _ rfl; rw [he] at i2; exact i2)
    · (try simp (disch := omega) only [sA_same, sA_ne, sA_sA, sA_sr, sB_s, ud_eq, ud_ne, ud_ud, ud_sr, uB_s, Int.add_zero, Int.reduceAdd] at g1)
      refine v_aload_n (n := 29) xB_183 dX11_isSeenAfter_28 rfl rfl ?_
      refine v_aload_n (n := 30) xB_183 dX11_isSeenAfter_29 rfl rfl ?_
      refine v_gf_s (n := 33) (kz := 35) xB_183 dX11_isSeenAfter_30 xO_183 fl_11_117 fg_11_35 (sh_81 _ _ _) rfl st_81_35 rfl ?_
      refine v_iload (n := 35) xB_183 dX11_isSeenAfter_33 rfl rfl ?_
      refine v_iaload (n := 36) (lz := 5) xB_183 dX11_isSeenAfter_35 (sh_104 _ _ _) rfl (by first | omega | (simp only [sA_same, sA_s, ud_s, Int.reduceEq, if_true, if_false, ite_true, ite_false, ↓reduceIte, and_true, true_and, eq_self, Int.add_zero, Int.reduceAdd]; omega) | (simp (disch := omega) only [sA_same, sA_ne, ud_eq, ud_ne, Int.add_zero, Int.reduceAdd]; omega)) rfl ?_
      refine v_call_v (n := 39) xB_183 dX11_isSeenAfter_36 xO_183 iv_11_368 rfl (sh_81 _ _ _) rfl rfl rfl ?_
      refine c_on (by omega) (by first | omega | (simp only [sA_same, sA_s, ud_s, Int.reduceEq, if_true, if_false, ite_true, ite_false, ↓reduceIte, and_true, true_and, eq_self, Int.add_zero, Int.reduceAdd]; omega) | (simp (disch := omega) only [sA_same, sA_ne, ud_eq, ud_ne, Int.add_zero, Int.reduceAdd]; omega)) (by first | omega | (simp only [sA_same, sA_s, ud_s, Int.reduceEq, if_true, if_false, ite_true, ite_false, ↓reduceIte, and_true, true_and, eq_self, Int.add_zero, Int.reduceAdd]; omega) | (simp (disch := omega) only [sA_same, sA_ne, ud_eq, ud_ne, Int.add_zero, Int.reduceAdd]; omega)) ?_
      (try simp (disch := omega) only [sA_same, sA_ne, sA_sA, sA_sr, sB_s, ud_eq, ud_ne, ud_ud, ud_sr, uB_s, Int.add_zero, Int.reduceAdd])
      rw [show onF (m 81 22) (m 104 k) (sd (m 104 k)) = onQ (m 81 22) (RA m CF t (m 83 t) j) (m 104 k) from by
        unfold onQ onF
        by_cases e : m 104 k < 2 * m 81 22
        · rw [if_pos e, if_pos e]; exact pgk_sd c1 c4 c8 (u2 k (by omega) (by omega)) e
        · rw [if_neg e, if_neg e]]
      (try simp (disch := omega) only [sA_same, sA_ne, sA_sA, sA_sr, sB_s, ud_eq, ud_ne, ud_ud, ud_sr, uB_s, Int.add_zero, Int.reduceAdd])
      refine v_aload_n (n := 40) xB_183 dX11_isSeenAfter_39 rfl rfl ?_
      refine v_gf_s (n := 43) (kz := 36) xB_183 dX11_isSeenAfter_40 xO_183 fl_11_120 fg_11_36 (sh_81 _ _ _) rfl st_81_36 rfl ?_
      refine v_iload (n := 45) xB_183 dX11_isSeenAfter_43 rfl rfl ?_
      refine v_iaload (n := 46) (lz := 5) xB_183 dX11_isSeenAfter_45 (sh_105 _ _ _) rfl (by first | omega | (simp only [sA_same, sA_s, ud_s, Int.reduceEq, if_true, if_false, ite_true, ite_false, ↓reduceIte, and_true, true_and, eq_self, Int.add_zero, Int.reduceAdd]; omega) | (simp (disch := omega) only [sA_same, sA_ne, ud_eq, ud_ne, Int.add_zero, Int.reduceAdd]; omega)) rfl ?_
      refine v_ic_ne (t := 53) (n := 49) xB_183 dX11_isSeenAfter_46 (by decide) rfl rfl (fun g2 => ?_) (fun g2 => ?_)
      · (try simp (disch := omega) only [sA_same, sA_ne, sA_sA, sA_sr, sB_s, ud_eq, ud_ne, ud_ud, ud_sr, uB_s, Int.add_zero, Int.reduceAdd] at g2)
        refine v_iconst (n := 54) xB_183 dX11_isSeenAfter_53 ⟨by decide, by decide⟩ rfl ?_
        refine v_istore_n3 (n := 55) xB_183 dX11_isSeenAfter_54 rfl rfl ?_
        refine v_iinc4 (n := 58) xB_183 dX11_isSeenAfter_55 rfl (by first | omega | (simp only [sA_same, sA_s, ud_s, Int.reduceEq, if_true, if_false, ite_true, ite_false, ↓reduceIte, and_true, true_and, eq_self, Int.add_zero, Int.reduceAdd]; omega) | (simp (disch := omega) only [sA_same, sA_ne, ud_eq, ud_ne, Int.add_zero, Int.reduceAdd]; omega)) rfl ?_
        refine v_goto (t := 15) xB_183 dX11_isSeenAfter_58 (by decide) rfl ?_
        first
        | (have hb := bq1 (by assumption); have he : seF (fun k => decide (onQ (m 81 22) (RA m CF t (m 83 t) j) (m 104 k) = m 105 k)) (k + 1).toNat = decide (onQ (m 81 22) (RA m CF t (m 83 t) j) (m 104 k) = m 105 k) := by rw [seF_s (by omega), hb, Bool.true_and]
           first
           | (rw [decide_eq_true (by assumption)] at he; have i2 := ih _ rfl; rw [he] at i2; exact i2)
           | (rw [decide_eq_false (by assumption)] at he; have i2 := ih _ rfl; rw [he] at i2; exact i2))
        | (have hb := bq0 (by assumption); have he : seF (fun k => decide (onQ (m 81 22) (RA m CF t (m 83 t) j) (m 104 k) = m 105 k)) (k + 1).toNat = false := by rw [seF_s (by omega), hb, Bool.false_and]
           have i2 := ih _ rfl; rw [he] at i2; exact i2)
      · (try simp (disch := omega) only [sA_same, sA_ne, sA_sA, sA_sr, sB_s, ud_eq, ud_ne, ud_ud, ud_sr, uB_s, Int.add_zero, Int.reduceAdd] at g2)
        refine v_iconst (n := 50) xB_183 dX11_isSeenAfter_49 ⟨by decide, by decide⟩ rfl ?_
        refine v_goto (t := 54) xB_183 dX11_isSeenAfter_50 (by decide) rfl ?_
        refine v_istore_n3 (n := 55) xB_183 dX11_isSeenAfter_54 rfl rfl ?_
        refine v_iinc4 (n := 58) xB_183 dX11_isSeenAfter_55 rfl (by first | omega | (simp only [sA_same, sA_s, ud_s, Int.reduceEq, if_true, if_false, ite_true, ite_false, ↓reduceIte, and_true, true_and, eq_self, Int.add_zero, Int.reduceAdd]; omega) | (simp (disch := omega) only [sA_same, sA_ne, ud_eq, ud_ne, Int.add_zero, Int.reduceAdd]; omega)) rfl ?_
        refine v_goto (t := 15) xB_183 dX11_isSeenAfter_58 (by decide) rfl ?_
        first
        | (have hb := bq1 (by assumption); have he : seF (fun k => decide (onQ (m 81 22) (RA m CF t (m 83 t) j) (m 104 k) = m 105 k)) (k + 1).toNat = decide (onQ (m 81 22) (RA m CF t (m 83 t) j) (m 104 k) = m 105 k) := by rw [seF_s (by omega), hb, Bool.true_and]
           first
           | (rw [decide_eq_true (by assumption)] at he; have i2 := ih _ rfl; rw [he] at i2; exact i2)
           | (rw [decide_eq_false (by assumption)] at he; have i2 := ih _ rfl; rw [he] at i2; exact i2))
        | (have hb := bq0 (by assumption); have he : seF (fun k => decide (onQ (m 81 22) (RA m CF t (m 83 t) j) (m 104 k) = m 105 k)) (k + 1).toNat = false := by rw [seF_s (by omega), hb, Bool.false_and]
           have i2 := ih _ rfl; rw [he] at i2; exact i2)
  · rfl
set_option maxHeartbeats 1000000 in
theorem c_rightTwice {d : Nat} {CF : Int → CLs} {t j w u o : Int} {m : PM} {dy : List (Nat × Nat)} {L : Nat} {Q : Option PV → PS → Prop} (hd : 6 ≤ d) (hR : RI m CF) (ht : 0 ≤ t ∧ t < m 81 0) (hj : 0 ≤ j ∧ j < m 81 5) (hw : 0 ≤ w ∧ w ≤ 3) (hu : 0 ≤ u ∧ u < m 81 0) (ho : 0 ≤ o ∧ o < m 81 5) (o1 : ∀ m' : PM, RFr m m' → Q (some (.inl (R2 m CF w u o (RA m CF t (m 83 t) j)))) (m', (none, (dy, L)))) : C d 176 [.inr (.inr 81), .inl t, .inl j, .inl w, .inl u, .inl o] (m, (none, (dy, L))) Q := by
  refine C_go (k := 5) hd xL_176 (fun d hd => ?_)
  show V d 176 (0, ([some (.inr (.inr 81)), some (.inl t), some (.inl j), some (.inl w), some (.inl u), some (.inl o), none], ([], (m, (none, (dy, L)))))) Q
  obtain ⟨s1, t1, j1, ⟨b1, b2, b3, b4, b5, b6, b7, b8⟩, r1, v1, ⟨u1, u2⟩, jr⟩ := hR
  have hR0 : RI m CF := ⟨s1, t1, j1, ⟨b1, b2, b3, b4, b5, b6, b7, b8⟩, r1, v1, ⟨u1, u2⟩, jr⟩
  have v2 := v1 t (by omega) (by omega)
  have v3 := v1 u (by omega) (by omega)
  refine v_aload_n (n := 1) xB_176 dX11_rightTwice_0 rfl rfl ?_
  refine v_call_v (n := 4) xB_176 dX11_rightTwice_1 xO_176 iv_11_349 rfl (sh_81 _ _ _) rfl rfl rfl ?_
  refine c_save (by omega) b1 ?_
  (try simp (disch := omega) only [sA_same, sA_ne, sA_sA, sA_sr, sB_s, ud_eq, ud_ne, ud_ud, ud_sr, uB_s, Int.add_zero, Int.reduceAdd])
  refine v_aload_n (n := 5) xB_176 dX11_rightTwice_4 rfl rfl ?_
  refine v_iload_n (n := 6) xB_176 dX11_rightTwice_5 rfl rfl ?_
  refine v_iload_n (n := 7) xB_176 dX11_rightTwice_6 rfl rfl ?_
  refine v_call_v (n := 10) xB_176 dX11_rightTwice_7 xO_176 iv_11_346 rfl (sh_81 _ _ _) rfl rfl rfl ?_
  refine c_goRun (by omega) (by first | omega | (simp only [sA_same, sA_s, ud_s, Int.reduceEq, if_true, if_false, ite_true, ite_false, ↓reduceIte, and_true, true_and, eq_self, Int.add_zero, Int.reduceAdd]; omega) | (simp (disch := omega) only [sA_same, sA_ne, ud_eq, ud_ne, Int.add_zero, Int.reduceAdd]; omega)) (JR_s (fun a q1 q2 => by simp (disch := omega) only [sA_ne]) (jr (j) (by omega) (by omega))) (by first | omega | (simp only [sA_same, sA_s, ud_s, Int.reduceEq, if_true, if_false, ite_true, ite_false, ↓reduceIte, and_true, true_and, eq_self, Int.add_zero, Int.reduceAdd]; omega) | (simp (disch := omega) only [sA_same, sA_ne, ud_eq, ud_ne, Int.add_zero, Int.reduceAdd]; omega)) (by first | omega | (simp only [sA_same, sA_s, ud_s, Int.reduceEq, if_true, if_false, ite_true, ite_false, ↓reduceIte, and_true, true_and, eq_self, Int.add_zero, Int.reduceAdd]; omega) | (simp (disch := omega) only [sA_same, sA_ne, ud_eq, ud_ne, Int.add_zero, Int.reduceAdd]; omega)) (by first | omega | (simp only [sA_same, sA_s, ud_s, Int.reduceEq, if_true, if_false, ite_true, ite_false, ↓reduceIte, and_true, true_and, eq_self, Int.add_zero, Int.reduceAdd]; omega) | (simp (disch := omega) only [sA_same, sA_ne, ud_eq, ud_ne, Int.add_zero, Int.reduceAdd]; omega)) (by first | omega | (simp only [sA_same, sA_s, ud_s, Int.reduceEq, if_true, if_false, ite_true, ite_false, ↓reduceIte, and_true, true_and, eq_self, Int.add_zero, Int.reduceAdd]; omega) | (simp (disch := omega) only [sA_same, sA_ne, ud_eq, ud_ne, Int.add_zero, Int.reduceAdd]; omega)) (by simp (disch := omega) only [sA_same, sA_ne, sA_sA, sA_sr, sB_s, ud_eq, ud_ne, ud_ud, ud_sr, uB_s, Int.add_zero, Int.reduceAdd]; exact r1) (by simp (disch := omega) only [sA_same, sA_ne, sA_sA, sA_sr, sB_s, ud_eq, ud_ne, ud_ud, ud_sr, uB_s, Int.add_zero, Int.reduceAdd]; exact b1) (by simp (disch := omega) only [sA_same, sA_ne, sA_sA, sA_sr, sB_s, ud_eq, ud_ne, ud_ud, ud_sr, uB_s, Int.add_zero, Int.reduceAdd]; exact b2) (by simp (disch := omega) only [sA_same, sA_ne, sA_sA, sA_sr, sB_s, ud_eq, ud_ne, ud_ud, ud_sr, uB_s, Int.add_zero, Int.reduceAdd]; exact b5) (by simp (disch := omega) only [sA_same, sA_ne, sA_sA, sA_sr, sB_s, ud_eq, ud_ne, ud_ud, ud_sr, uB_s, Int.add_zero, Int.reduceAdd]; exact b3) (by simp (disch := omega) only [sA_same, sA_ne, sA_sA, sA_sr, sB_s, ud_eq, ud_ne, ud_ud, ud_sr, uB_s, Int.add_zero, Int.reduceAdd]; exact b6) (by simp (disch := omega) only [sA_same, sA_ne, sA_sA, sA_sr, sB_s, ud_eq, ud_ne, ud_ud, ud_sr, uB_s, Int.add_zero, Int.reduceAdd]; exact b4) (fun f95 sd od ns dn on nd c1 c2 c3 c4 c5 c6 c7 => ?_)
  (try simp (disch := omega) only [sA_same, sA_ne, sA_sA, sA_sr, sB_s, ud_eq, ud_ne, ud_ud, ud_sr, uB_s, Int.add_zero, Int.reduceAdd] at c7)
  have c8 : ∀ s, 0 ≤ s → s < m 81 22 → pkA sd dn s = RA m CF t (m 83 t) j s := fun s a b => by
    rw [c7 s a b]; unfold RA RQ; exact cF_congr (fun x a b => (pc_at s1 a b).symm) (fun _ _ _ => rfl) a b
  (try simp (disch := omega) only [sA_same, sA_ne, sA_sA, sA_sr, sB_s, ud_eq, ud_ne, ud_ud, ud_sr, uB_s, Int.add_zero, Int.reduceAdd])
  refine v_aload_n (n := 11) xB_176 dX11_rightTwice_10 rfl rfl ?_
  refine v_iload_n (n := 12) xB_176 dX11_rightTwice_11 rfl rfl ?_
  refine v_call_v (n := 15) xB_176 dX11_rightTwice_12 xO_176 iv_11_315 rfl (sh_81 _ _ _) rfl rfl rfl ?_
  refine c_goWay (by omega) (by first | omega | (simp only [sA_same, sA_s, ud_s, Int.reduceEq, if_true, if_false, ite_true, ite_false, ↓reduceIte, and_true, true_and, eq_self, Int.add_zero, Int.reduceAdd]; omega) | (simp (disch := omega) only [sA_same, sA_ne, ud_eq, ud_ne, Int.add_zero, Int.reduceAdd]; omega)) (by first | omega | (simp only [sA_same, sA_s, ud_s, Int.reduceEq, if_true, if_false, ite_true, ite_false, ↓reduceIte, and_true, true_and, eq_self, Int.add_zero, Int.reduceAdd]; omega) | (simp (disch := omega) only [sA_same, sA_ne, ud_eq, ud_ne, Int.add_zero, Int.reduceAdd]; omega)) (by simp (disch := omega) only [sA_same, sA_ne, sA_sA, sA_sr, sB_s, ud_eq, ud_ne, ud_ud, ud_sr, uB_s, Int.add_zero, Int.reduceAdd]; exact c1) (by simp (disch := omega) only [sA_same, sA_ne, sA_sA, sA_sr, sB_s, ud_eq, ud_ne, ud_ud, ud_sr, uB_s, Int.add_zero, Int.reduceAdd]; exact c4) (fun sw dw cw1 cw2 cw => ?_)
  simp (disch := omega) only [sA_same, sA_ne, sA_sA, sA_sr, sB_s, ud_eq, ud_ne, ud_ud, ud_sr, uB_s, Int.add_zero, Int.reduceAdd] at cw
  (try simp (disch := omega) only [sA_same, sA_ne, sA_sA, sA_sr, sB_s, ud_eq, ud_ne, ud_ud, ud_sr, uB_s, Int.add_zero, Int.reduceAdd])
  refine v_aload_n (n := 16) xB_176 dX11_rightTwice_15 rfl rfl ?_
  refine v_iload (n := 18) xB_176 dX11_rightTwice_16 rfl rfl ?_
  refine v_iload (n := 20) xB_176 dX11_rightTwice_18 rfl rfl ?_
  refine v_call_v (n := 23) xB_176 dX11_rightTwice_20 xO_176 iv_11_346 rfl (sh_81 _ _ _) rfl rfl rfl ?_
  refine c_goRun (by omega) (by first | omega | (simp only [sA_same, sA_s, ud_s, Int.reduceEq, if_true, if_false, ite_true, ite_false, ↓reduceIte, and_true, true_and, eq_self, Int.add_zero, Int.reduceAdd]; omega) | (simp (disch := omega) only [sA_same, sA_ne, ud_eq, ud_ne, Int.add_zero, Int.reduceAdd]; omega)) (JR_s (fun a q1 q2 => by simp (disch := omega) only [sA_ne]) (jr (o) (by omega) (by omega))) (by first | omega | (simp only [sA_same, sA_s, ud_s, Int.reduceEq, if_true, if_false, ite_true, ite_false, ↓reduceIte, and_true, true_and, eq_self, Int.add_zero, Int.reduceAdd]; omega) | (simp (disch := omega) only [sA_same, sA_ne, ud_eq, ud_ne, Int.add_zero, Int.reduceAdd]; omega)) (by first | omega | (simp only [sA_same, sA_s, ud_s, Int.reduceEq, if_true, if_false, ite_true, ite_false, ↓reduceIte, and_true, true_and, eq_self, Int.add_zero, Int.reduceAdd]; omega) | (simp (disch := omega) only [sA_same, sA_ne, ud_eq, ud_ne, Int.add_zero, Int.reduceAdd]; omega)) (by first | omega | (simp only [sA_same, sA_s, ud_s, Int.reduceEq, if_true, if_false, ite_true, ite_false, ↓reduceIte, and_true, true_and, eq_self, Int.add_zero, Int.reduceAdd]; omega) | (simp (disch := omega) only [sA_same, sA_ne, ud_eq, ud_ne, Int.add_zero, Int.reduceAdd]; omega)) (by first | omega | (simp only [sA_same, sA_s, ud_s, Int.reduceEq, if_true, if_false, ite_true, ite_false, ↓reduceIte, and_true, true_and, eq_self, Int.add_zero, Int.reduceAdd]; omega) | (simp (disch := omega) only [sA_same, sA_ne, ud_eq, ud_ne, Int.add_zero, Int.reduceAdd]; omega)) (by simp (disch := omega) only [sA_same, sA_ne, sA_sA, sA_sr, sB_s, ud_eq, ud_ne, ud_ud, ud_sr, uB_s, Int.add_zero, Int.reduceAdd]; exact r1) (by simp (disch := omega) only [sA_same, sA_ne, sA_sA, sA_sr, sB_s, ud_eq, ud_ne, ud_ud, ud_sr, uB_s, Int.add_zero, Int.reduceAdd]; exact cw1) (by simp (disch := omega) only [sA_same, sA_ne, sA_sA, sA_sr, sB_s, ud_eq, ud_ne, ud_ud, ud_sr, uB_s, Int.add_zero, Int.reduceAdd]; exact cw2) (by simp (disch := omega) only [sA_same, sA_ne, sA_sA, sA_sr, sB_s, ud_eq, ud_ne, ud_ud, ud_sr, uB_s, Int.add_zero, Int.reduceAdd]; exact c2) (by simp (disch := omega) only [sA_same, sA_ne, sA_sA, sA_sr, sB_s, ud_eq, ud_ne, ud_ud, ud_sr, uB_s, Int.add_zero, Int.reduceAdd]; exact c5) (by simp (disch := omega) only [sA_same, sA_ne, sA_sA, sA_sr, sB_s, ud_eq, ud_ne, ud_ud, ud_sr, uB_s, Int.add_zero, Int.reduceAdd]; exact c3) (by simp (disch := omega) only [sA_same, sA_ne, sA_sA, sA_sr, sB_s, ud_eq, ud_ne, ud_ud, ud_sr, uB_s, Int.add_zero, Int.reduceAdd]; exact c6) (fun f95b sdb odb nsb dnb onb ndb c1b c2b c3b c4b c5b c6b c7b => ?_)
  simp (disch := omega) only [sA_same, sA_ne, sA_sA, sA_sr, sB_s, ud_eq, ud_ne, ud_ud, ud_sr, uB_s, Int.add_zero, Int.reduceAdd] at c7b
  have c9 : ∀ s, 0 ≤ s → s < m 81 22 → pkA sdb dnb s = RQ m CF (m 81 22) (wyF w (m 81 22) (RA m CF t (m 83 t) j)) u (m 83 u) o s := fun s a b => by
    rw [c7b s a b]; unfold RQ
    exact cF_congr (fun x a b => by rw [cw x a b]; exact wyF_congr c8 a b) (fun _ _ _ => rfl) a b
  (try simp (disch := omega) only [sA_same, sA_ne, sA_sA, sA_sr, sB_s, ud_eq, ud_ne, ud_ud, ud_sr, uB_s, Int.add_zero, Int.reduceAdd])
  refine v_aload_n (n := 24) xB_176 dX11_rightTwice_23 rfl rfl ?_
  refine v_call_v (n := 27) xB_176 dX11_rightTwice_24 xO_176 iv_11_318 rfl (sh_81 _ _ _) rfl rfl rfl ?_
  refine c_right (by omega) (by first | omega | (simp only [sA_same, sA_s, ud_s, Int.reduceEq, if_true, if_false, ite_true, ite_false, ↓reduceIte, and_true, true_and, eq_self, Int.add_zero, Int.reduceAdd]; omega) | (simp (disch := omega) only [sA_same, sA_ne, ud_eq, ud_ne, Int.add_zero, Int.reduceAdd]; omega)) (by simp (disch := omega) only [sA_same, sA_ne, sA_sA, sA_sr, sB_s, ud_eq, ud_ne, ud_ud, ud_sr, uB_s, Int.add_zero, Int.reduceAdd]; exact c1b) (by simp (disch := omega) only [sA_same, sA_ne, sA_sA, sA_sr, sB_s, ud_eq, ud_ne, ud_ud, ud_sr, uB_s, Int.add_zero, Int.reduceAdd]; exact c4b) ?_
  refine v_istore6 (n := 29) xB_176 dX11_rightTwice_27 rfl rfl ?_
  refine v_aload_n (n := 30) xB_176 dX11_rightTwice_29 rfl rfl ?_
  refine v_call_v (n := 33) xB_176 dX11_rightTwice_30 xO_176 iv_11_352 rfl (sh_81 _ _ _) rfl rfl rfl ?_
  refine c_putBack (by omega) (by simp (disch := omega) only [sA_same, sA_ne, sA_sA, sA_sr, sB_s, ud_eq, ud_ne, ud_ud, ud_sr, uB_s, Int.add_zero, Int.reduceAdd]; exact (bl_ivl b1 b8 _ _)) ?_
  (try simp (disch := omega) only [sA_same, sA_ne, sA_sA, sA_sr, sB_s, ud_eq, ud_ne, ud_ud, ud_sr, uB_s, Int.add_zero, Int.reduceAdd])
  refine v_iload (n := 35) xB_176 dX11_rightTwice_33 rfl rfl ?_
  refine v_ireturn0 xB_176 dX11_rightTwice_35 xK_176 ?_
  (try simp (disch := omega) only [sA_same, sA_ne, sA_sA, sA_sr, sB_s, ud_eq, ud_ne, ud_ud, ud_sr, uB_s, Int.add_zero, Int.reduceAdd])
  refine q_eqI (o1 _ (q_R (fun k hk => by simp only [ud_s]; (repeat' split) <;> first | rfl | omega | (subst_vars; first | rfl | omega)) (bl_ivl (bl_ivl b1 b8 _ _) c1b _ _) (pgs_ivl (pgs_ivl b2 b7 _ _) c4b _ _) c5b c6b c2b c3b (pgs_ivl b2 b7 _ _) (bl_ivl b1 b8 _ _) (fun s a b => pkA_iv a b) rfl)) ?_
  unfold R2
  rw [rtF_congr c9]
def UF (m : PM) (CF : Int → CLs) (t j : Int) : Int := if (0 ≤ t ∧ t < m 81 0) ∧ (0 ≤ j ∧ j < m 81 5) then TQ m CF 12 t (m 83 t) j else -1
theorem UF_AE {m m' : PM} (h : AE m m') (CF : Int → CLs) : UF m' CF = UF m CF := by
  funext t j; unfold UF
  rw [TQ_AE h, h.2.2.1, h.2.2.2.1, h.2.2.2.2.2.1]
set_option maxHeartbeats 1000000 in
theorem c_uses {d : Nat} {CF : Int → CLs} {t j : Int} {m : PM} {dy : List (Nat × Nat)} {L : Nat} {Q : Option PV → PS → Prop} (hd : 6 ≤ d) (hR : RI m CF) (o1 : ∀ m' : PM, RFr m m' → Q (some (.inl (UF m CF t j))) (m', (none, (dy, L)))) : C d 175 [.inr (.inr 81), .inl t, .inl j] (m, (none, (dy, L))) Q := by
  refine C_go (k := 5) hd xL_175 (fun d hd => ?_)
  show V d 175 (0, ([some (.inr (.inr 81)), some (.inl t), some (.inl j), none], ([], (m, (none, (dy, L)))))) Q
  obtain ⟨s1, t1, j1, ⟨b1, b2, b3, b4, b5, b6, b7, b8⟩, r1, v1, ⟨u1, u2⟩, jr⟩ := hR
  have hR0 : RI m CF := ⟨s1, t1, j1, ⟨b1, b2, b3, b4, b5, b6, b7, b8⟩, r1, v1, ⟨u1, u2⟩, jr⟩
  refine v_aload_n (n := 1) xB_175 dX11_uses_0 rfl rfl ?_
  refine v_iload_n (n := 2) xB_175 dX11_uses_1 rfl rfl ?_
  refine v_call_v (n := 5) xB_175 dX11_uses_2 xO_175 iv_11_225 rfl (sh_81 _ _ _) rfl rfl rfl ?_
  refine c_isTray (by omega) (by first | omega | (simp only [sA_same, sA_s, ud_s, Int.reduceEq, if_true, if_false, ite_true, ite_false, ↓reduceIte, and_true, true_and, eq_self, Int.add_zero, Int.reduceAdd]; omega) | (simp (disch := omega) only [sA_same, sA_ne, ud_eq, ud_ne, Int.add_zero, Int.reduceAdd]; omega)) (fun g1 => ?_) (fun g2 => ?_)
  · (try simp (disch := omega) only [sA_same, sA_ne, sA_sA, sA_sr, sB_s, ud_eq, ud_ne, ud_ud, ud_sr, uB_s, Int.add_zero, Int.reduceAdd] at g1)
    refine v_if_eq_n (n := 8) xB_175 dX11_uses_5 (by decide) rfl (by decide) ?_
    refine v_aload_n (n := 9) xB_175 dX11_uses_8 rfl rfl ?_
    refine v_iload_n (n := 10) xB_175 dX11_uses_9 rfl rfl ?_
    refine v_call_v (n := 13) xB_175 dX11_uses_10 xO_175 iv_11_283 rfl (sh_81 _ _ _) rfl rfl rfl ?_
    refine c_isJob (by omega) (by first | omega | (simp only [sA_same, sA_s, ud_s, Int.reduceEq, if_true, if_false, ite_true, ite_false, ↓reduceIte, and_true, true_and, eq_self, Int.add_zero, Int.reduceAdd]; omega) | (simp (disch := omega) only [sA_same, sA_ne, ud_eq, ud_ne, Int.add_zero, Int.reduceAdd]; omega)) (fun g3 => ?_) (fun g4 => ?_)
    · (try simp (disch := omega) only [sA_same, sA_ne, sA_sA, sA_sr, sB_s, ud_eq, ud_ne, ud_ud, ud_sr, uB_s, Int.add_zero, Int.reduceAdd] at g3)
      refine v_if_ne_y (t := 18) xB_175 dX11_uses_13 (by decide) rfl (by decide) ?_
      refine v_aload_n (n := 19) xB_175 dX11_uses_18 rfl rfl ?_
      refine v_call_v (n := 22) xB_175 dX11_uses_19 xO_175 iv_11_349 rfl (sh_81 _ _ _) rfl rfl rfl ?_
      refine c_save (by omega) b1 ?_
      have v2 := v1 t (by omega) (by omega)
      (try simp (disch := omega) only [sA_same, sA_ne, sA_sA, sA_sr, sB_s, ud_eq, ud_ne, ud_ud, ud_sr, uB_s, Int.add_zero, Int.reduceAdd])
      refine v_aload_n (n := 23) xB_175 dX11_uses_22 rfl rfl ?_
      refine v_iconst (n := 24) xB_175 dX11_uses_23 ⟨by decide, by decide⟩ rfl ?_
      refine v_pf_i (n := 27) (kz := 22) xB_175 dX11_uses_24 xO_175 fl_11_78 fg_11_22 (Or.inl fn_11_22) (sh_81 _ _ _) (by decide) rfl rfl ?_
      (try simp (disch := omega) only [sA_same, sA_ne, sA_sA, sA_sr, sB_s, ud_eq, ud_ne, ud_ud, ud_sr, uB_s, Int.add_zero, Int.reduceAdd])
      refine v_aload_n (n := 28) xB_175 dX11_uses_27 rfl rfl ?_
      refine v_bipush (n := 30) xB_175 dX11_uses_28 ⟨by decide, by decide⟩ rfl ?_
      refine v_call_v (n := 33) xB_175 dX11_uses_30 xO_175 iv_11_300 rfl (sh_81 _ _ _) rfl rfl rfl ?_
      refine c_loads (by omega) (by first | omega | (simp only [sA_same, sA_s, ud_s, Int.reduceEq, if_true, if_false, ite_true, ite_false, ↓reduceIte, and_true, true_and, eq_self, Int.add_zero, Int.reduceAdd]; omega) | (simp (disch := omega) only [sA_same, sA_ne, ud_eq, ud_ne, Int.add_zero, Int.reduceAdd]; omega)) (by first | omega | (simp only [sA_same, sA_s, ud_s, Int.reduceEq, if_true, if_false, ite_true, ite_false, ↓reduceIte, and_true, true_and, eq_self, Int.add_zero, Int.reduceAdd]; omega) | (simp (disch := omega) only [sA_same, sA_ne, ud_eq, ud_ne, Int.add_zero, Int.reduceAdd]; omega)) (by simp (disch := omega) only [sA_same, sA_ne, sA_sA, sA_sr, sB_s, ud_eq, ud_ne, ud_ud, ud_sr, uB_s, Int.add_zero, Int.reduceAdd]; exact b1) (by simp (disch := omega) only [sA_same, sA_ne, sA_sA, sA_sr, sB_s, ud_eq, ud_ne, ud_ud, ud_sr, uB_s, Int.add_zero, Int.reduceAdd]; exact b2) (fun sl dl l1 l2 l3 => ?_)
      (try simp (disch := omega) only [sA_same, sA_ne, sA_sA, sA_sr, sB_s, ud_eq, ud_ne, ud_ud, ud_sr, uB_s, Int.add_zero, Int.reduceAdd])
      refine v_aload_n (n := 34) xB_175 dX11_uses_33 rfl rfl ?_
      refine v_iload_n (n := 35) xB_175 dX11_uses_34 rfl rfl ?_
      refine v_iload_n (n := 36) xB_175 dX11_uses_35 rfl rfl ?_
      refine v_call_v (n := 39) xB_175 dX11_uses_36 xO_175 iv_11_346 rfl (sh_81 _ _ _) rfl rfl rfl ?_
      refine c_goRun (by omega) (by first | omega | (simp only [sA_same, sA_s, ud_s, Int.reduceEq, if_true, if_false, ite_true, ite_false, ↓reduceIte, and_true, true_and, eq_self, Int.add_zero, Int.reduceAdd]; omega) | (simp (disch := omega) only [sA_same, sA_ne, ud_eq, ud_ne, Int.add_zero, Int.reduceAdd]; omega)) (JR_s (fun a q1 q2 => by simp (disch := omega) only [sA_ne]) (jr (j) (by omega) (by omega))) (by first | omega | (simp only [sA_same, sA_s, ud_s, Int.reduceEq, if_true, if_false, ite_true, ite_false, ↓reduceIte, and_true, true_and, eq_self, Int.add_zero, Int.reduceAdd]; omega) | (simp (disch := omega) only [sA_same, sA_ne, ud_eq, ud_ne, Int.add_zero, Int.reduceAdd]; omega)) (by first | omega | (simp only [sA_same, sA_s, ud_s, Int.reduceEq, if_true, if_false, ite_true, ite_false, ↓reduceIte, and_true, true_and, eq_self, Int.add_zero, Int.reduceAdd]; omega) | (simp (disch := omega) only [sA_same, sA_ne, ud_eq, ud_ne, Int.add_zero, Int.reduceAdd]; omega)) (by first | omega | (simp only [sA_same, sA_s, ud_s, Int.reduceEq, if_true, if_false, ite_true, ite_false, ↓reduceIte, and_true, true_and, eq_self, Int.add_zero, Int.reduceAdd]; omega) | (simp (disch := omega) only [sA_same, sA_ne, ud_eq, ud_ne, Int.add_zero, Int.reduceAdd]; omega)) (by first | omega | (simp only [sA_same, sA_s, ud_s, Int.reduceEq, if_true, if_false, ite_true, ite_false, ↓reduceIte, and_true, true_and, eq_self, Int.add_zero, Int.reduceAdd]; omega) | (simp (disch := omega) only [sA_same, sA_ne, ud_eq, ud_ne, Int.add_zero, Int.reduceAdd]; omega)) (by simp (disch := omega) only [sA_same, sA_ne, sA_sA, sA_sr, sB_s, ud_eq, ud_ne, ud_ud, ud_sr, uB_s, Int.add_zero, Int.reduceAdd]; exact r1) (by simp (disch := omega) only [sA_same, sA_ne, sA_sA, sA_sr, sB_s, ud_eq, ud_ne, ud_ud, ud_sr, uB_s, Int.add_zero, Int.reduceAdd]; exact l1) (by simp (disch := omega) only [sA_same, sA_ne, sA_sA, sA_sr, sB_s, ud_eq, ud_ne, ud_ud, ud_sr, uB_s, Int.add_zero, Int.reduceAdd]; exact l2) (by simp (disch := omega) only [sA_same, sA_ne, sA_sA, sA_sr, sB_s, ud_eq, ud_ne, ud_ud, ud_sr, uB_s, Int.add_zero, Int.reduceAdd]; exact b5) (by simp (disch := omega) only [sA_same, sA_ne, sA_sA, sA_sr, sB_s, ud_eq, ud_ne, ud_ud, ud_sr, uB_s, Int.add_zero, Int.reduceAdd]; exact b3) (by simp (disch := omega) only [sA_same, sA_ne, sA_sA, sA_sr, sB_s, ud_eq, ud_ne, ud_ud, ud_sr, uB_s, Int.add_zero, Int.reduceAdd]; exact b6) (by simp (disch := omega) only [sA_same, sA_ne, sA_sA, sA_sr, sB_s, ud_eq, ud_ne, ud_ud, ud_sr, uB_s, Int.add_zero, Int.reduceAdd]; exact b4) (fun f95 sd od ns dn on nd c1 c2 c3 c4 c5 c6 c7 => ?_)
      (try simp (disch := omega) only [sA_same, sA_ne, sA_sA, sA_sr, sB_s, ud_eq, ud_ne, ud_ud, ud_sr, uB_s, Int.add_zero, Int.reduceAdd] at c7)
      (try simp (disch := omega) only [sA_same, sA_ne, sA_sA, sA_sr, sB_s, ud_eq, ud_ne, ud_ud, ud_sr, uB_s, Int.add_zero, Int.reduceAdd])
      refine v_aload_n (n := 40) xB_175 dX11_uses_39 rfl rfl ?_
      refine v_gf_i (n := 43) (kz := 29) xB_175 dX11_uses_40 xO_175 fl_11_99 fg_11_29 rfl (sh_81 _ _ _) rfl rfl ?_
      refine v_istore_n3 (n := 44) xB_175 dX11_uses_43 rfl rfl ?_
      refine v_aload_n (n := 45) xB_175 dX11_uses_44 rfl rfl ?_
      refine v_call_v (n := 48) xB_175 dX11_uses_45 xO_175 iv_11_352 rfl (sh_81 _ _ _) rfl rfl rfl ?_
      refine c_putBack (by omega) (by simp (disch := omega) only [sA_same, sA_ne, sA_sA, sA_sr, sB_s, ud_eq, ud_ne, ud_ud, ud_sr, uB_s, Int.add_zero, Int.reduceAdd]; exact (bl_ivl b1 b8 _ _)) ?_
      (try simp (disch := omega) only [sA_same, sA_ne, sA_sA, sA_sr, sB_s, ud_eq, ud_ne, ud_ud, ud_sr, uB_s, Int.add_zero, Int.reduceAdd])
      refine v_iload_n (n := 49) xB_175 dX11_uses_48 rfl rfl ?_
      refine v_ireturn0 xB_175 dX11_uses_49 xK_175 ?_
      first
      | (refine q_eqI (o1 _ (RI_refl hR0)) ?_; unfold UF; rw [if_neg (by omega)]; done)
      | ((try simp (disch := omega) only [sA_same, sA_ne, sA_sA, sA_sr, sB_s, ud_eq, ud_ne, ud_ud, ud_sr, uB_s, Int.add_zero, Int.reduceAdd])
         refine q_eqI (o1 _ (q_R (fun k hk => by simp only [ud_s]; (repeat' split) <;> first | rfl | omega | (subst_vars; first | rfl | omega)) (bl_ivl (bl_ivl b1 b8 _ _) c1 _ _) (pgs_ivl (pgs_ivl b2 b7 _ _) c4 _ _) c5 c6 c2 c3 (pgs_ivl b2 b7 _ _) (bl_ivl b1 b8 _ _) (fun s a b => pkA_iv a b) rfl)) ?_
         unfold UF TQ
         rw [if_pos (by omega)])
    · (try simp (disch := omega) only [sA_same, sA_ne, sA_sA, sA_sr, sB_s, ud_eq, ud_ne, ud_ud, ud_sr, uB_s, Int.add_zero, Int.reduceAdd] at g4)
      refine v_if_ne_n (n := 16) xB_175 dX11_uses_13 (by decide) rfl (by decide) ?_
      refine v_iconst (n := 17) xB_175 dX11_uses_16 ⟨by decide, by decide⟩ rfl ?_
      refine v_ireturn0 xB_175 dX11_uses_17 xK_175 ?_
      first
      | (refine q_eqI (o1 _ (RI_refl hR0)) ?_; unfold UF; rw [if_neg (by omega)]; done)
      | ((try simp (disch := omega) only [sA_same, sA_ne, sA_sA, sA_sr, sB_s, ud_eq, ud_ne, ud_ud, ud_sr, uB_s, Int.add_zero, Int.reduceAdd])
         refine q_eqI (o1 _ (q_R (fun k hk => by simp only [ud_s]; (repeat' split) <;> first | rfl | omega | (subst_vars; first | rfl | omega)) (bl_ivl (bl_ivl b1 b8 _ _) c1 _ _) (pgs_ivl (pgs_ivl b2 b7 _ _) c4 _ _) c5 c6 c2 c3 (pgs_ivl b2 b7 _ _) (bl_ivl b1 b8 _ _) (fun s a b => pkA_iv a b) rfl)) ?_
         unfold UF TQ
         rw [if_pos (by omega)])
  · (try simp (disch := omega) only [sA_same, sA_ne, sA_sA, sA_sr, sB_s, ud_eq, ud_ne, ud_ud, ud_sr, uB_s, Int.add_zero, Int.reduceAdd] at g2)
    refine v_if_eq_y (t := 16) xB_175 dX11_uses_5 (by decide) rfl (by decide) ?_
    refine v_iconst (n := 17) xB_175 dX11_uses_16 ⟨by decide, by decide⟩ rfl ?_
    refine v_ireturn0 xB_175 dX11_uses_17 xK_175 ?_
    first
    | (refine q_eqI (o1 _ (RI_refl hR0)) ?_; unfold UF; rw [if_neg (by omega)]; done)
    | ((try simp (disch := omega) only [sA_same, sA_ne, sA_sA, sA_sr, sB_s, ud_eq, ud_ne, ud_ud, ud_sr, uB_s, Int.add_zero, Int.reduceAdd])
       refine q_eqI (o1 _ (q_R (fun k hk => by simp only [ud_s]; (repeat' split) <;> first | rfl | omega | (subst_vars; first | rfl | omega)) (bl_ivl (bl_ivl b1 b8 _ _) c1 _ _) (pgs_ivl (pgs_ivl b2 b7 _ _) c4 _ _) c5 c6 c2 c3 (pgs_ivl b2 b7 _ _) (bl_ivl b1 b8 _ _) (fun s a b => pkA_iv a b) rfl)) ?_
       unfold UF TQ
       rw [if_pos (by omega)])
