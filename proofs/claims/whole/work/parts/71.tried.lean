/-! What is asked: the class, tried runs. -/
theorem If {m0 m : PM} {dy : List (Nat × Nat)} (h : Inv m0 m dy) : (0 ≤ m 81 22 ∧ m 81 22 ≤ 12) ∧ m 2 1 = m 81 22 ∧ (0 ≤ m 81 0 ∧ m 81 0 ≤ 5) ∧ m 1 2 = m 81 0 ∧ (0 ≤ m 81 5 ∧ m 81 5 ≤ 6) ∧ m 0 5 = m 81 5 := by
  obtain ⟨hSt, hSc, hTr, hSe, hPl, hBo, hIm, hHm, hTx, hAc, hTp, hJb, hCo⟩ := h
  exact ⟨hSt.1, hSt.2.1, hTr.1, hTr.2.1, hJb.1, hJb.2.1⟩
theorem It {m0 m : PM} {dy : List (Nat × Nat)} (h : Inv m0 m dy) {t : Int} (ht : 0 ≤ t ∧ t < 5) : m (17 + 2 * t) 0 = m 82 t ∧ m (17 + 2 * t) 1 = m 83 t ∧ (0 ≤ m 82 t ∧ m 82 t ≤ 6) ∧ (0 ≤ m 83 t ∧ m 83 t ≤ 9) ∧ r9 (m (18 + 2 * t)) ∧ (∀ i, 0 ≤ i → i < 4 → m (18 + 2 * t) i = m 85 (4 * t + i)) := by
  obtain ⟨hSt, hSc, hTr, -⟩ := h
  obtain ⟨a1, a2, a3, a4, a5, a6, a7, a8⟩ := hTr.2.2.2 t ht.1 ht.2
  exact ⟨a1, a2, a5, a6, a8, a4⟩
def RT (m : PM) (CF : Int → CLs) (t j : Int) : Int := rtF (m 81 22) (RA m CF t (m 83 t) j)
theorem RT_AE {m m' : PM} (h : AE m m') (CF : Int → CLs) : RT m' CF = RT m CF := by
  funext t j; unfold RT; rw [RA_AE h, h.2.1, h.2.2.2.2.2.1]
theorem rtF_in {N : Int} (h : 0 ≤ N) (c : Int → Int) : 0 ≤ rtF N c ∧ rtF N c ≤ N := by
  have := rt_in c N.toNat
  unfold rtF; omega
def R2 (m : PM) (CF : Int → CLs) (w t j : Int) (c : Int → Int) : Int := rtF (m 81 22) (RQ m CF (m 81 22) (wyF w (m 81 22) c) t (m 83 t) j)
theorem R2_AE {m m' : PM} (h : AE m m') (CF : Int → CLs) : R2 m' CF = R2 m CF := by
  funext w t j c; unfold R2; rw [RQ_AE h, h.2.1, h.2.2.2.2.2.1]
theorem R2_congr {m : PM} {CF : Int → CLs} {w t j : Int} {c c' : Int → Int} (h : ∀ s, 0 ≤ s → s < m 81 22 → c s = c' s) : R2 m CF w t j c = R2 m CF w t j c' := by
  unfold R2
  exact rtF_congr (fun s a b => RQ_congr _ _ _ (fun s a b => wyF_congr h a b) a b)
def onQ (N : Int) (c : Int → Int) (k : Int) : Int := onF N k (pgk c k)
def seF (P : Int → Bool) : Nat → Bool
  | 0 => true
  | n + 1 => seF P n && P n
theorem seF_iff (P : Int → Bool) : ∀ n : Nat, seF P n = true ↔ ∀ j : Int, 0 ≤ j → j < n → P j = true := by
  intro n
  induction n with
  | zero => exact ⟨fun _ j a b => by omega, fun _ => rfl⟩
  | succ n ih =>
    rw [seF, Bool.and_eq_true, ih]
    constructor
    · intro h j a b
      by_cases e : j = n
      · rw [e]; exact h.2
      · exact h.1 j a (by omega)
    · intro h
      exact ⟨fun j a b => h j a (by omega), h n (by omega) (by omega)⟩
theorem fs_no (P : Int → Bool) : ∀ (n : Nat) (i : Int), 0 ≤ i → (fs P (fun i => i) n i = -5 ↔ ∀ j : Int, i ≤ j → j < i + n → P j = false) := by
  intro n
  induction n with
  | zero => intro i _; exact ⟨fun _ j a b => by omega, fun _ => rfl⟩
  | succ n ih =>
    intro i hi
    rw [fs]
    by_cases h : P i = true
    · rw [if_pos h]
      constructor
      · intro e; have : i = -5 := e; omega
      · intro q; have := q i (by omega) (by omega); rw [h] at this; cases this
    · rw [if_neg h, ih (i + 1) (by omega)]
      constructor
      · intro q j a b
        by_cases e : j = i
        · rw [e]; exact Bool.eq_false_iff.mpr h
        · exact q j (by omega) (by omega)
      · intro q j a b
        exact q j (by omega) (by omega)
def SB (m : PM) (CF : Int → CLs) (t v j : Int) : Bool := seF (fun k => decide (onQ (m 81 22) (RA m CF t v j) (m 104 k) = m 105 k)) (m 81 34).toNat
theorem SB_AE {m m' : PM} (h : AE m m') (CF : Int → CLs) : SB m' CF = SB m CF := by
  funext t v j; unfold SB
  have h2 := RA_AE h CF
  obtain ⟨a1, a2, a3, a4, a5, a6, a7, a8, a9, a10, -⟩ := h
  rw [h2, a2, a8, a9, a10]
theorem pon_oq {N a k : Int} {c : Int → Int} (ha : 0 ≤ a) (hk : k = 0 ∨ k = 1) : ponF N a k c = onQ N c (2 * a + k) := by
  unfold onQ onF
  by_cases h : a < N
  · rw [ponF_pgk ⟨ha, h⟩ hk, if_pos (by omega)]
  · unfold ponF; rw [if_neg (by omega), if_neg (by omega)]
theorem r3_seF {m0 m : PM} {dy : List (Nat × Nat)} (h : Inv m0 m dy) {N : Int} {c c' : Int → Int} (hc : ∀ s, 0 ≤ s → s < N → c s = c' s) : (r3F N c (m 6) (m 7) (m 8) (m 5 3) = -5) ↔ seF (fun k => decide (onQ N c' (m 104 k) = m 105 k)) (m 81 34).toNat = true := by
  obtain ⟨hSt, hSc, hTr, hSe, -⟩ := h
  obtain ⟨b1, b2, b3⟩ := hSe
  unfold r3F
  rw [fs_no _ _ _ (by omega), seF_iff, b2]
  have key : ∀ j : Int, 0 ≤ j → j < m 81 34 → (ponF N (m 6 j) (m 7 j) c = m 8 j ↔ onQ N c' (m 104 j) = m 105 j) := by
    intro j a b
    obtain ⟨q1, q2, q3, q4⟩ := b3 j a b
    rw [pon_oq q3.1 q4, q1, q2]
    have : onQ N c (2 * m 6 j + m 7 j) = onQ N c' (2 * m 6 j + m 7 j) := by
      unfold onQ onF
      by_cases e : 2 * m 6 j + m 7 j < 2 * N
      · rw [if_pos e, if_pos e]; unfold pgk; rw [hc _ (by omega) (by omega)]
      · rw [if_neg e, if_neg e]
    rw [this]
  constructor
  · intro q j a b
    have := q j a (by omega)
    rw [decide_eq_false_iff_not] at this
    exact decide_eq_true ((key j a (by omega)).mp (Decidable.not_not.mp this))
  · intro q j a b
    have := of_decide_eq_true (q j a (by omega))
    rw [decide_eq_false_iff_not]
    intro e; exact e ((key j a (by omega)).mpr this)
theorem q_K {m0 m m2 : PM} {dy : List (Nat × Nat)} {f60 fo f62 fc : Int → Int} (hI : Inv m0 m dy) (ho : okc fo) (hc : okc fc) (e : m2 = setA (setA (setA (setA m 60 f60) 61 fo) 62 f62) 63 fc) : KFr m m2 := by
  subst e
  refine ⟨fun a ha => by simp (disch := omega) only [sA_ne], ?_, ?_, ?_⟩
  · rw [sA_ne (by omega), sA_ne (by omega), sA_same]; exact ho
  · rw [sA_same]; exact hc
  · rw [sA_ne (by omega), sA_ne (by omega), sA_ne (by omega), sA_ne (by omega)]; exact hI.2.1.2.2.1
set_option maxHeartbeats 1000000 in
theorem k_tryRun {d : Nat} {m0 : PM} {CF : Int → CLs} {t v j : Int} {m : PM} {dy : List (Nat × Nat)} {L : Nat} {Q : Option PV → PS → Prop} (hd : 5 ≤ d) (hI : Inv m0 m dy) (hJ : JF m dy CF) (ht : 0 ≤ t ∧ t < m 81 0) (hj : 0 ≤ j ∧ j < m 81 5) (hv : 0 ≤ v ∧ v ≤ 9) (o1 : ∀ m' : PM, KFr m m' → m' 62 1 = m 81 22 → (∀ s, 0 ≤ s → s < m 81 22 → m' 63 s = RA m CF t v j s) → m' 60 1 = TQ m CF (m 81 22) t v j → m' 60 2 = PQ m CF (m 81 22) t v j → Q (none) (m', (none, (dy, L)))) : C d 85 [.inr (.inr 0), .inl t, .inl v, .inl j] (m, (none, (dy, L))) Q := by
  refine C_go (k := 4) hd xL_85 (fun d hd => ?_)
  show V d 85 (0, ([some (.inr (.inr 0)), some (.inl t), some (.inl v), some (.inl j)], ([], (m, (none, (dy, L)))))) Q
  obtain ⟨s1, s2, t1, t2, j1, j2⟩ := If hI
  obtain ⟨i1, i2, i3, i4, i5, i6⟩ := It hI (t := t) (by omega)
  refine v_aload_n (n := 1) xB_85 dX10_tryRun_0 rfl rfl ?_
  refine v_gf_s (n := 4) (kz := 7) xB_85 dX10_tryRun_1 xO_85 fl_10_44 fg_10_7 (sh_0 _ _ _) rfl st_0_7 rfl ?_
  refine v_aload_n (n := 5) xB_85 dX10_tryRun_4 rfl rfl ?_
  refine v_gf_s (n := 8) (kz := 0) xB_85 dX10_tryRun_5 xO_85 fl_10_12 fg_10_0 (sh_0 _ _ _) rfl st_0_0 rfl ?_
  refine v_gf_s (n := 11) (kz := 0) xB_85 dX10_tryRun_8 xO_85 fl_10_76 fg_6_0 (sh_1 _ _ _) rfl st_1_0 rfl ?_
  refine v_call_v (n := 14) xB_85 dX10_tryRun_11 xO_85 iv_10_178 rfl (sh_62 _ _ _) rfl rfl rfl ?_
  refine k_pcopy (by omega) (Or.inr (Or.inr (Or.inl rfl))) (Or.inl rfl) ?_
  (try simp (disch := omega) only [sA_same, sA_ne, sA_sA, sA_sr, sB_s, ud_eq, ud_ne, ud_ud, ud_sr, uB_s, Int.add_zero, Int.reduceAdd])
  refine v_aload_n (n := 15) xB_85 dX10_tryRun_14 rfl rfl ?_
  refine v_gf_s (n := 18) (kz := 6) xB_85 dX10_tryRun_15 xO_85 fl_10_37 fg_10_6 (sh_0 _ _ _) rfl st_0_6 rfl ?_
  refine v_aload_n (n := 19) xB_85 dX10_tryRun_18 rfl rfl ?_
  refine v_gf_s (n := 22) (kz := 7) xB_85 dX10_tryRun_19 xO_85 fl_10_44 fg_10_7 (sh_0 _ _ _) rfl st_0_7 rfl ?_
  refine v_aload_n (n := 23) xB_85 dX10_tryRun_22 rfl rfl ?_
  refine v_gf_s (n := 26) (kz := 0) xB_85 dX10_tryRun_23 xO_85 fl_10_12 fg_10_0 (sh_0 _ _ _) rfl st_0_0 rfl ?_
  refine v_gf_s (n := 29) (kz := 1) xB_85 dX10_tryRun_26 xO_85 fl_10_86 fg_6_1 (sh_1 _ _ _) rfl st_1_1 rfl ?_
  refine v_iload_n (n := 30) xB_85 dX10_tryRun_29 rfl rfl ?_
  refine v_aald_s (n := 31) (lz := 5) xB_85 dX10_tryRun_30 (sh_4 _ _ _) (by decide) rfl (by first | omega | (simp only [sA_same, sA_s, ud_s, Int.reduceEq, if_true, if_false, ite_true, ite_false, ↓reduceIte, and_true, true_and, eq_self, Int.add_zero, Int.reduceAdd]; omega) | (simp (disch := omega) only [sA_same, sA_ne, ud_eq, ud_ne, Int.add_zero, Int.reduceAdd]; omega)) (st_T (by omega)) rfl ?_
  refine v_iload_n (n := 32) xB_85 dX10_tryRun_31 rfl rfl ?_
  refine v_aload_n (n := 33) xB_85 dX10_tryRun_32 rfl rfl ?_
  refine v_gf_s (n := 36) (kz := 4) xB_85 dX10_tryRun_33 xO_85 fl_10_30 fg_10_4 (sh_0 _ _ _) rfl st_0_4 rfl ?_
  refine v_iload_n (n := 37) xB_85 dX10_tryRun_36 rfl rfl ?_
  refine v_aald_d (n := 38) (lz := 6) xB_85 dX10_tryRun_37 (sh_59 _ _ _) (by decide) rfl (by first | omega | (simp only [sA_same, sA_s, ud_s, Int.reduceEq, if_true, if_false, ite_true, ite_false, ↓reduceIte, and_true, true_and, eq_self, Int.add_zero, Int.reduceAdd]; omega) | (simp (disch := omega) only [sA_same, sA_ne, ud_eq, ud_ne, Int.add_zero, Int.reduceAdd]; omega)) (st_59 (by omega)) rfl ?_
  (try simp (disch := omega) only [sA_same, sA_ne, sA_sA, sA_sr, sB_s, ud_eq, ud_ne, ud_ud, ud_sr, uB_s, Int.add_zero, Int.reduceAdd])
  refine v_call_v (n := 41) xB_85 dX10_tryRun_38 xO_85 iv_10_171 rfl (sh_60 _ _ _) rfl rfl rfl ?_
  refine k_copy (by omega) (Or.inr (Or.inr (Or.inl rfl))) (by first | omega | (simp only [sA_same, sA_s, ud_s, Int.reduceEq, if_true, if_false, ite_true, ite_false, ↓reduceIte, and_true, true_and, eq_self, Int.add_zero, Int.reduceAdd]; omega) | (simp (disch := omega) only [sA_same, sA_ne, ud_eq, ud_ne, Int.add_zero, Int.reduceAdd]; omega)) (by first | omega | (simp only [sA_same, sA_s, ud_s, Int.reduceEq, if_true, if_false, ite_true, ite_false, ↓reduceIte, and_true, true_and, eq_self, Int.add_zero, Int.reduceAdd]; omega) | (simp (disch := omega) only [sA_same, sA_ne, ud_eq, ud_ne, Int.add_zero, Int.reduceAdd]; omega)) (by simp (disch := omega) only [sA_same, sA_ne, sA_sA, sA_sr, sB_s, ud_eq, ud_ne, ud_ud, ud_sr, uB_s, Int.add_zero, Int.reduceAdd]; exact cp12_ok hI.1.2.2.1 hI.2.1.2.1) (by simp (disch := omega) only [sA_same, sA_ne, sA_sA, sA_sr, sB_s, ud_eq, ud_ne, ud_ud, ud_sr, uB_s, Int.add_zero, Int.reduceAdd]; exact hI.2.1.1) (by first | omega | (simp only [sA_same, sA_s, ud_s, Int.reduceEq, if_true, if_false, ite_true, ite_false, ↓reduceIte, and_true, true_and, eq_self, Int.add_zero, Int.reduceAdd]; omega) | (simp (disch := omega) only [sA_same, sA_ne, ud_eq, ud_ne, Int.add_zero, Int.reduceAdd]; omega)) (by first | omega | (simp only [sA_same, sA_s, ud_s, Int.reduceEq, if_true, if_false, ite_true, ite_false, ↓reduceIte, and_true, true_and, eq_self, Int.add_zero, Int.reduceAdd]; omega) | (simp (disch := omega) only [sA_same, sA_ne, ud_eq, ud_ne, Int.add_zero, Int.reduceAdd]; omega)) (by simp (disch := omega) only [sA_same, sA_ne, sA_sA, sA_sr, sB_s, ud_eq, ud_ne, ud_ud, ud_sr, uB_s, Int.add_zero, Int.reduceAdd]; exact i5) (JC_fr (fun a ha => by simp (disch := omega) only [sA_ne]) _ _ _ (hJ j hj.1 hj.2).1) (fun fo fc hfo hfc hfcv => ?_)
  (try simp (disch := omega) only [sA_same, sA_ne, sA_sA, sA_sr, sB_s, ud_eq, ud_ne, ud_ud, ud_sr, uB_s, Int.add_zero, Int.reduceAdd])
  refine v_return xB_85 dX10_tryRun_41 xK_85 ?_
  simp (disch := omega) only [sA_same, sA_ne, sA_sA, sA_sr, sB_s, ud_eq, ud_ne, ud_ud, ud_sr, uB_s, Int.add_zero, Int.reduceAdd, s2, i1] at hfcv
  (try simp (disch := omega) only [sA_same, sA_ne, sA_sA, sA_sr, sB_s, ud_eq, ud_ne, ud_ud, ud_sr, uB_s, Int.add_zero, Int.reduceAdd])
  refine o1 _ (q_K hI hfo hfc rfl) ?_ ?_ ?_ ?_
  · simp (disch := omega) only [sA_same, sA_ne, sA_sA, sA_sr, sB_s, ud_eq, ud_ne, ud_ud, ud_sr, uB_s, Int.add_zero, Int.reduceAdd]; exact s2
  · intro s a b
    simp (disch := omega) only [sA_same, sA_ne, sA_sA, sA_sr, sB_s, ud_eq, ud_ne, ud_ud, ud_sr, uB_s, Int.add_zero, Int.reduceAdd]
    rw [hfcv s a b]
    unfold RA RQ
    exact cF_congr (fun x a b => by rw [cp12_at ⟨a, by omega⟩, pc_at s1 a b, hI.1.2.2.2.2.2 x a b]) (fun i a b => i6 i a b) a b
  · simp (disch := omega) only [sA_same, sA_ne, sA_sA, sA_sr, sB_s, ud_eq, ud_ne, ud_ud, ud_sr, uB_s, Int.add_zero, Int.reduceAdd, s2, i1]; rfl
  · simp (disch := omega) only [sA_same, sA_ne, sA_sA, sA_sr, sB_s, ud_eq, ud_ne, ud_ud, ud_sr, uB_s, Int.add_zero, Int.reduceAdd, s2, i1]; rfl
set_option maxHeartbeats 1000000 in
theorem k_rightsAfter {d : Nat} {m0 : PM} {CF : Int → CLs} {t j : Int} {m : PM} {dy : List (Nat × Nat)} {L : Nat} {Q : Option PV → PS → Prop} (hd : 6 ≤ d) (hI : Inv m0 m dy) (hJ : JF m dy CF) (ht : 0 ≤ t ∧ t < m 81 0) (hj : 0 ≤ j ∧ j < m 81 5) (o1 : ∀ m' : PM, KFr m m' → Q (some (.inl (RT m CF t j))) (m', (none, (dy, L)))) : C d 86 [.inr (.inr 0), .inl t, .inl j] (m, (none, (dy, L))) Q := by
  refine C_go (k := 5) hd xL_86 (fun d hd => ?_)
  show V d 86 (0, ([some (.inr (.inr 0)), some (.inl t), some (.inl j)], ([], (m, (none, (dy, L)))))) Q
  obtain ⟨s1, s2, t1, t2, j1, j2⟩ := If hI
  obtain ⟨i1, i2, i3, i4, i5, i6⟩ := It hI (t := t) (by omega)
  refine v_aload_n (n := 1) xB_86 dX10_rightsAfter_0 rfl rfl ?_
  refine v_iload_n (n := 2) xB_86 dX10_rightsAfter_1 rfl rfl ?_
  refine v_aload_n (n := 3) xB_86 dX10_rightsAfter_2 rfl rfl ?_
  refine v_gf_s (n := 6) (kz := 0) xB_86 dX10_rightsAfter_3 xO_86 fl_10_12 fg_10_0 (sh_0 _ _ _) rfl st_0_0 rfl ?_
  refine v_gf_s (n := 9) (kz := 1) xB_86 dX10_rightsAfter_6 xO_86 fl_10_86 fg_6_1 (sh_1 _ _ _) rfl st_1_1 rfl ?_
  refine v_iload_n (n := 10) xB_86 dX10_rightsAfter_9 rfl rfl ?_
  refine v_aald_s (n := 11) (lz := 5) xB_86 dX10_rightsAfter_10 (sh_4 _ _ _) (by decide) rfl (by first | omega | (simp only [sA_same, sA_s, ud_s, Int.reduceEq, if_true, if_false, ite_true, ite_false, ↓reduceIte, and_true, true_and, eq_self, Int.add_zero, Int.reduceAdd]; omega) | (simp (disch := omega) only [sA_same, sA_ne, ud_eq, ud_ne, Int.add_zero, Int.reduceAdd]; omega)) (st_T (by omega)) rfl ?_
  refine v_gf_i (n := 14) (kz := 1) xB_86 dX10_rightsAfter_11 xO_86 fl_10_102 fg_9_1 rfl (sh_T (by first | omega | (simp only [sA_same, sA_s, ud_s, Int.reduceEq, if_true, if_false, ite_true, ite_false, ↓reduceIte, and_true, true_and, eq_self, Int.add_zero, Int.reduceAdd]; omega) | (simp (disch := omega) only [sA_same, sA_ne, ud_eq, ud_ne, Int.add_zero, Int.reduceAdd]; omega)) _ _ _) rfl rfl ?_
  refine v_iload_n (n := 15) xB_86 dX10_rightsAfter_14 rfl rfl ?_
  refine v_call_v (n := 18) xB_86 dX10_rightsAfter_15 xO_86 iv_10_182 rfl (sh_0 _ _ _) rfl rfl rfl ?_
  refine k_tryRun (by omega) hI hJ (by first | omega | (simp only [sA_same, sA_s, ud_s, Int.reduceEq, if_true, if_false, ite_true, ite_false, ↓reduceIte, and_true, true_and, eq_self, Int.add_zero, Int.reduceAdd]; omega) | (simp (disch := omega) only [sA_same, sA_ne, ud_eq, ud_ne, Int.add_zero, Int.reduceAdd]; omega)) (by first | omega | (simp only [sA_same, sA_s, ud_s, Int.reduceEq, if_true, if_false, ite_true, ite_false, ↓reduceIte, and_true, true_and, eq_self, Int.add_zero, Int.reduceAdd]; omega) | (simp (disch := omega) only [sA_same, sA_ne, ud_eq, ud_ne, Int.add_zero, Int.reduceAdd]; omega)) (by first | omega | (simp only [sA_same, sA_s, ud_s, Int.reduceEq, if_true, if_false, ite_true, ite_false, ↓reduceIte, and_true, true_and, eq_self, Int.add_zero, Int.reduceAdd]; omega) | (simp (disch := omega) only [sA_same, sA_ne, ud_eq, ud_ne, Int.add_zero, Int.reduceAdd]; omega)) (fun mA hK e62 e63 e60 e61 => ?_)
  refine v_aload_n (n := 19) xB_86 dX10_rightsAfter_18 rfl rfl ?_
  refine v_gf_s (n := 22) (kz := 7) xB_86 dX10_rightsAfter_19 xO_86 fl_10_44 fg_10_7 (sh_0 _ _ _) rfl st_0_7 rfl ?_
  refine v_call_v (n := 25) xB_86 dX10_rightsAfter_22 xO_86 iv_10_138 rfl (sh_62 _ _ _) rfl rfl rfl ?_
  refine k_rights (by omega) (Or.inr (Or.inr (Or.inl rfl))) (by first | omega | (simp only [sA_same, sA_s, ud_s, Int.reduceEq, if_true, if_false, ite_true, ite_false, ↓reduceIte, and_true, true_and, eq_self, Int.add_zero, Int.reduceAdd]; omega) | (simp (disch := omega) only [sA_same, sA_ne, ud_eq, ud_ne, Int.add_zero, Int.reduceAdd]; omega)) hK.2.2.1 ?_
  refine v_ireturn0 xB_86 dX10_rightsAfter_25 xK_86 ?_
  refine q_eqI (o1 _ hK) ?_
  rw [e62]
  unfold RT
  rw [← i2]
  exact rtF_congr (fun s a b => (e63 s a b).symm)
set_option maxHeartbeats 1000000 in
theorem k_isSeenAfter {d : Nat} {m0 : PM} {CF : Int → CLs} {t v j : Int} {m : PM} {dy : List (Nat × Nat)} {L : Nat} {Q : Option PV → PS → Prop} (hd : 6 ≤ d) (hI : Inv m0 m dy) (hJ : JF m dy CF) (ht : 0 ≤ t ∧ t < m 81 0) (hj : 0 ≤ j ∧ j < m 81 5) (hv : 0 ≤ v ∧ v ≤ 9) (o1 : ∀ m' : PM, KFr m m' → (SB m CF t v j = true) → Q (some (.inl 1)) (m', (none, (dy, L)))) (o2 : ∀ m' : PM, KFr m m' → (SB m CF t v j = false) → Q (some (.inl 0)) (m', (none, (dy, L)))) : C d 96 [.inr (.inr 0), .inl t, .inl v, .inl j] (m, (none, (dy, L))) Q := by
  refine C_go (k := 5) hd xL_96 (fun d hd => ?_)
  show V d 96 (0, ([some (.inr (.inr 0)), some (.inl t), some (.inl v), some (.inl j)], ([], (m, (none, (dy, L)))))) Q
  obtain ⟨s1, s2, t1, t2, j1, j2⟩ := If hI
  have u1 := hI.2.2.2.1.1
  have u2 := hI.2.2.2.1.2.1
  have u3 := hI.2.2.2.1.2.2
  refine v_aload_n (n := 1) xB_96 dX10_isSeenAfter_0 rfl rfl ?_
  refine v_iload_n (n := 2) xB_96 dX10_isSeenAfter_1 rfl rfl ?_
  refine v_iload_n (n := 3) xB_96 dX10_isSeenAfter_2 rfl rfl ?_
  refine v_iload_n (n := 4) xB_96 dX10_isSeenAfter_3 rfl rfl ?_
  refine v_call_v (n := 7) xB_96 dX10_isSeenAfter_4 xO_96 iv_10_182 rfl (sh_0 _ _ _) rfl rfl rfl ?_
  refine k_tryRun (by omega) hI hJ (by first | omega | (simp only [sA_same, sA_s, ud_s, Int.reduceEq, if_true, if_false, ite_true, ite_false, ↓reduceIte, and_true, true_and, eq_self, Int.add_zero, Int.reduceAdd]; omega) | (simp (disch := omega) only [sA_same, sA_ne, ud_eq, ud_ne, Int.add_zero, Int.reduceAdd]; omega)) (by first | omega | (simp only [sA_same, sA_s, ud_s, Int.reduceEq, if_true, if_false, ite_true, ite_false, ↓reduceIte, and_true, true_and, eq_self, Int.add_zero, Int.reduceAdd]; omega) | (simp (disch := omega) only [sA_same, sA_ne, ud_eq, ud_ne, Int.add_zero, Int.reduceAdd]; omega)) (by first | omega | (simp only [sA_same, sA_s, ud_s, Int.reduceEq, if_true, if_false, ite_true, ite_false, ↓reduceIte, and_true, true_and, eq_self, Int.add_zero, Int.reduceAdd]; omega) | (simp (disch := omega) only [sA_same, sA_ne, ud_eq, ud_ne, Int.add_zero, Int.reduceAdd]; omega)) (fun mA hK e62 e63 e60 e61 => ?_)
  refine v_aload_n (n := 8) xB_96 dX10_isSeenAfter_7 rfl rfl ?_
  refine v_gf_s (n := 11) (kz := 7) xB_96 dX10_isSeenAfter_8 xO_96 fl_10_44 fg_10_7 (sh_0 _ _ _) rfl st_0_7 rfl ?_
  refine v_aload_n (n := 12) xB_96 dX10_isSeenAfter_11 rfl rfl ?_
  refine v_gf_s (n := 15) (kz := 0) xB_96 dX10_isSeenAfter_12 xO_96 fl_10_12 fg_10_0 (sh_0 _ _ _) rfl st_0_0 rfl ?_
  refine v_gf_s (n := 18) (kz := 3) xB_96 dX10_isSeenAfter_15 xO_96 fl_10_204 fg_6_3 (sh_1 _ _ _) rfl st_1_3 rfl ?_
  refine v_call_v (n := 21) xB_96 dX10_isSeenAfter_18 xO_96 iv_10_224 rfl (sh_62 _ _ _) rfl rfl rfl ?_
  refine k_firstOtherwise (by omega) (Or.inr (Or.inr (Or.inl rfl))) (Or.inl rfl) (by first | omega | (simp only [sA_same, sA_s, ud_s, Int.reduceEq, if_true, if_false, ite_true, ite_false, ↓reduceIte, and_true, true_and, eq_self, Int.add_zero, Int.reduceAdd]; omega) | (simp (disch := omega) only [sA_same, sA_ne, ud_eq, ud_ne, Int.add_zero, Int.reduceAdd]; omega)) hK.2.2.1 (by rw [hK.1 5 (by omega)]; unfold notN; rw [if_pos (Or.inl rfl)]; omega) (fun k a b => by rw [show (5 : Int) + 2 = 7 from rfl, hK.1 7 (by omega)]; rw [hK.1 5 (by omega)] at b; exact (u3 k a (by omega)).2.2.2) ?_
  refine v_bipush (n := 23) xB_96 dX10_isSeenAfter_21 ⟨by decide, by decide⟩ rfl ?_
  refine v_ic_ne (t := 30) (n := 26) xB_96 dX10_isSeenAfter_23 (by decide) rfl rfl (fun g1 => ?_) (fun g1 => ?_)
  · refine v_iconst (n := 31) xB_96 dX10_isSeenAfter_30 ⟨by decide, by decide⟩ rfl ?_
    refine v_ireturn1 xB_96 dX10_isSeenAfter_31 xK_96 (by decide) ?_
    first
    | (refine o1 _ hK ((r3_seF hI e63).mp ?_); rw [← e62, ← hK.1 5 (by omega), ← hK.1 6 (by omega), ← hK.1 7 (by omega), ← hK.1 8 (by omega)]; assumption)
    | (refine o2 _ hK (Bool.eq_false_iff.mpr (fun q => ?_)); have q2 := (r3_seF hI e63).mpr q; rw [← e62, ← hK.1 5 (by omega), ← hK.1 6 (by omega), ← hK.1 7 (by omega), ← hK.1 8 (by omega)] at q2; exact absurd q2 (by assumption))
  · refine v_iconst (n := 27) xB_96 dX10_isSeenAfter_26 ⟨by decide, by decide⟩ rfl ?_
    refine v_goto (t := 31) xB_96 dX10_isSeenAfter_27 (by decide) rfl ?_
    refine v_ireturn1 xB_96 dX10_isSeenAfter_31 xK_96 (by decide) ?_
    first
    | (refine o1 _ hK ((r3_seF hI e63).mp ?_); rw [← e62, ← hK.1 5 (by omega), ← hK.1 6 (by omega), ← hK.1 7 (by omega), ← hK.1 8 (by omega)]; assumption)
    | (refine o2 _ hK (Bool.eq_false_iff.mpr (fun q => ?_)); have q2 := (r3_seF hI e63).mpr q; rw [← e62, ← hK.1 5 (by omega), ← hK.1 6 (by omega), ← hK.1 7 (by omega), ← hK.1 8 (by omega)] at q2; exact absurd q2 (by assumption))
set_option maxHeartbeats 1000000 in
theorem k_rightsBehind {d : Nat} {m0 : PM} {CF : Int → CLs} {w t j : Int} {c1 : Int → Int} {m : PM} {dy : List (Nat × Nat)} {L : Nat} {Q : Option PV → PS → Prop} (hd : 6 ≤ d) (hI : Inv m0 m dy) (hJ : JF m dy CF) (ht : 0 ≤ t ∧ t < m 81 0) (hj : 0 ≤ j ∧ j < m 81 5) (hw : 0 ≤ w ∧ w ≤ 3) (hN1 : m 62 1 = m 81 22) (hc1 : ∀ s, 0 ≤ s → s < m 81 22 → m 63 s = c1 s) (o1 : ∀ m' : PM, KFr m m' → m' 62 = m 62 → m' 63 = m 63 → Q (some (.inl (R2 m CF w t j c1))) (m', (none, (dy, L)))) : C d 87 [.inr (.inr 0), .inl w, .inl t, .inl j] (m, (none, (dy, L))) Q := by
  refine C_go (k := 5) hd xL_87 (fun d hd => ?_)
  show V d 87 (0, ([some (.inr (.inr 0)), some (.inl w), some (.inl t), some (.inl j)], ([], (m, (none, (dy, L)))))) Q
  obtain ⟨s1, s2, t1, t2, j1, j2⟩ := If hI
  obtain ⟨i1, i2, i3, i4, i5, i6⟩ := It hI (t := t) (by omega)
  refine v_aload_n (n := 1) xB_87 dX10_rightsBehind_0 rfl rfl ?_
  refine v_gf_s (n := 4) (kz := 8) xB_87 dX10_rightsBehind_1 xO_87 fl_10_48 fg_10_8 (sh_0 _ _ _) rfl st_0_8 rfl ?_
  refine v_aload_n (n := 5) xB_87 dX10_rightsBehind_4 rfl rfl ?_
  refine v_gf_s (n := 8) (kz := 7) xB_87 dX10_rightsBehind_5 xO_87 fl_10_44 fg_10_7 (sh_0 _ _ _) rfl st_0_7 rfl ?_
  refine v_call_v (n := 11) xB_87 dX10_rightsBehind_8 xO_87 iv_10_178 rfl (sh_64 _ _ _) rfl rfl rfl ?_
  refine k_pcopy (by omega) (Or.inr (Or.inr (Or.inr rfl))) (Or.inr (Or.inr (Or.inl rfl))) ?_
  (try simp (disch := omega) only [sA_same, sA_ne, sA_sA, sA_sr, sB_s, ud_eq, ud_ne, ud_ud, ud_sr, uB_s, Int.add_zero, Int.reduceAdd])
  refine v_aload_n (n := 12) xB_87 dX10_rightsBehind_11 rfl rfl ?_
  refine v_gf_s (n := 15) (kz := 8) xB_87 dX10_rightsBehind_12 xO_87 fl_10_48 fg_10_8 (sh_0 _ _ _) rfl st_0_8 rfl ?_
  refine v_iload_n (n := 16) xB_87 dX10_rightsBehind_15 rfl rfl ?_
  refine v_call_v (n := 19) xB_87 dX10_rightsBehind_16 xO_87 iv_10_135 rfl (sh_64 _ _ _) rfl rfl rfl ?_
  refine k_doWay (by omega) (Or.inr (Or.inr (Or.inr rfl))) (by first | omega | (simp only [sA_same, sA_s, ud_s, Int.reduceEq, if_true, if_false, ite_true, ite_false, ↓reduceIte, and_true, true_and, eq_self, Int.add_zero, Int.reduceAdd]; omega) | (simp (disch := omega) only [sA_same, sA_ne, ud_eq, ud_ne, Int.add_zero, Int.reduceAdd]; omega)) (by first | omega | (simp only [sA_same, sA_s, ud_s, Int.reduceEq, if_true, if_false, ite_true, ite_false, ↓reduceIte, and_true, true_and, eq_self, Int.add_zero, Int.reduceAdd]; omega) | (simp (disch := omega) only [sA_same, sA_ne, ud_eq, ud_ne, Int.add_zero, Int.reduceAdd]; omega)) (by simp (disch := omega) only [sA_same, sA_ne, sA_sA, sA_sr, sB_s, ud_eq, ud_ne, ud_ud, ud_sr, uB_s, Int.add_zero, Int.reduceAdd]; exact cp12_ok hI.2.1.2.1 hI.2.1.2.2.1) (fun f1 hf1 hfv => ?_)
  simp (disch := omega) only [sA_same, sA_ne, sA_sA, sA_sr, sB_s, ud_eq, ud_ne, ud_ud, ud_sr, uB_s, Int.add_zero, Int.reduceAdd, hN1] at hfv
  (try simp (disch := omega) only [sA_same, sA_ne, sA_sA, sA_sr, sB_s, ud_eq, ud_ne, ud_ud, ud_sr, uB_s, Int.add_zero, Int.reduceAdd])
  refine v_aload_n (n := 20) xB_87 dX10_rightsBehind_19 rfl rfl ?_
  refine v_gf_s (n := 23) (kz := 6) xB_87 dX10_rightsBehind_20 xO_87 fl_10_37 fg_10_6 (sh_0 _ _ _) rfl st_0_6 rfl ?_
  refine v_aload_n (n := 24) xB_87 dX10_rightsBehind_23 rfl rfl ?_
  refine v_gf_s (n := 27) (kz := 8) xB_87 dX10_rightsBehind_24 xO_87 fl_10_48 fg_10_8 (sh_0 _ _ _) rfl st_0_8 rfl ?_
  refine v_aload_n (n := 28) xB_87 dX10_rightsBehind_27 rfl rfl ?_
  refine v_gf_s (n := 31) (kz := 0) xB_87 dX10_rightsBehind_28 xO_87 fl_10_12 fg_10_0 (sh_0 _ _ _) rfl st_0_0 rfl ?_
  refine v_gf_s (n := 34) (kz := 1) xB_87 dX10_rightsBehind_31 xO_87 fl_10_86 fg_6_1 (sh_1 _ _ _) rfl st_1_1 rfl ?_
  refine v_iload_n (n := 35) xB_87 dX10_rightsBehind_34 rfl rfl ?_
  refine v_aald_s (n := 36) (lz := 5) xB_87 dX10_rightsBehind_35 (sh_4 _ _ _) (by decide) rfl (by first | omega | (simp only [sA_same, sA_s, ud_s, Int.reduceEq, if_true, if_false, ite_true, ite_false, ↓reduceIte, and_true, true_and, eq_self, Int.add_zero, Int.reduceAdd]; omega) | (simp (disch := omega) only [sA_same, sA_ne, ud_eq, ud_ne, Int.add_zero, Int.reduceAdd]; omega)) (st_T (by omega)) rfl ?_
  refine v_aload_n (n := 37) xB_87 dX10_rightsBehind_36 rfl rfl ?_
  refine v_gf_s (n := 40) (kz := 0) xB_87 dX10_rightsBehind_37 xO_87 fl_10_12 fg_10_0 (sh_0 _ _ _) rfl st_0_0 rfl ?_
  refine v_gf_s (n := 43) (kz := 1) xB_87 dX10_rightsBehind_40 xO_87 fl_10_86 fg_6_1 (sh_1 _ _ _) rfl st_1_1 rfl ?_
  refine v_iload_n (n := 44) xB_87 dX10_rightsBehind_43 rfl rfl ?_
  refine v_aald_s (n := 45) (lz := 5) xB_87 dX10_rightsBehind_44 (sh_4 _ _ _) (by decide) rfl (by first | omega | (simp only [sA_same, sA_s, ud_s, Int.reduceEq, if_true, if_false, ite_true, ite_false, ↓reduceIte, and_true, true_and, eq_self, Int.add_zero, Int.reduceAdd]; omega) | (simp (disch := omega) only [sA_same, sA_ne, ud_eq, ud_ne, Int.add_zero, Int.reduceAdd]; omega)) (st_T (by omega)) rfl ?_
  refine v_gf_i (n := 48) (kz := 1) xB_87 dX10_rightsBehind_45 xO_87 fl_10_102 fg_9_1 rfl (sh_T (by first | omega | (simp only [sA_same, sA_s, ud_s, Int.reduceEq, if_true, if_false, ite_true, ite_false, ↓reduceIte, and_true, true_and, eq_self, Int.add_zero, Int.reduceAdd]; omega) | (simp (disch := omega) only [sA_same, sA_ne, ud_eq, ud_ne, Int.add_zero, Int.reduceAdd]; omega)) _ _ _) rfl rfl ?_
  (try simp (disch := omega) only [sA_same, sA_ne, sA_sA, sA_sr, sB_s, ud_eq, ud_ne, ud_ud, ud_sr, uB_s, Int.add_zero, Int.reduceAdd])
  refine v_aload_n (n := 49) xB_87 dX10_rightsBehind_48 rfl rfl ?_
  refine v_gf_s (n := 52) (kz := 4) xB_87 dX10_rightsBehind_49 xO_87 fl_10_30 fg_10_4 (sh_0 _ _ _) rfl st_0_4 rfl ?_
  refine v_iload_n (n := 53) xB_87 dX10_rightsBehind_52 rfl rfl ?_
  refine v_aald_d (n := 54) (lz := 6) xB_87 dX10_rightsBehind_53 (sh_59 _ _ _) (by decide) rfl (by first | omega | (simp only [sA_same, sA_s, ud_s, Int.reduceEq, if_true, if_false, ite_true, ite_false, ↓reduceIte, and_true, true_and, eq_self, Int.add_zero, Int.reduceAdd]; omega) | (simp (disch := omega) only [sA_same, sA_ne, ud_eq, ud_ne, Int.add_zero, Int.reduceAdd]; omega)) (st_59 (by omega)) rfl ?_
  (try simp (disch := omega) only [sA_same, sA_ne, sA_sA, sA_sr, sB_s, ud_eq, ud_ne, ud_ud, ud_sr, uB_s, Int.add_zero, Int.reduceAdd])
  refine v_call_v (n := 57) xB_87 dX10_rightsBehind_54 xO_87 iv_10_171 rfl (sh_60 _ _ _) rfl rfl rfl ?_
  refine k_copy (by omega) (Or.inr (Or.inr (Or.inr rfl))) (by first | omega | (simp only [sA_same, sA_s, ud_s, Int.reduceEq, if_true, if_false, ite_true, ite_false, ↓reduceIte, and_true, true_and, eq_self, Int.add_zero, Int.reduceAdd]; omega) | (simp (disch := omega) only [sA_same, sA_ne, ud_eq, ud_ne, Int.add_zero, Int.reduceAdd]; omega)) (by first | omega | (simp only [sA_same, sA_s, ud_s, Int.reduceEq, if_true, if_false, ite_true, ite_false, ↓reduceIte, and_true, true_and, eq_self, Int.add_zero, Int.reduceAdd]; omega) | (simp (disch := omega) only [sA_same, sA_ne, ud_eq, ud_ne, Int.add_zero, Int.reduceAdd]; omega)) (by simp (disch := omega) only [sA_same, sA_ne, sA_sA, sA_sr, sB_s, ud_eq, ud_ne, ud_ud, ud_sr, uB_s, Int.add_zero, Int.reduceAdd]; exact hf1) (by simp (disch := omega) only [sA_same, sA_ne, sA_sA, sA_sr, sB_s, ud_eq, ud_ne, ud_ud, ud_sr, uB_s, Int.add_zero, Int.reduceAdd]; exact hI.2.1.1) (by first | omega | (simp only [sA_same, sA_s, ud_s, Int.reduceEq, if_true, if_false, ite_true, ite_false, ↓reduceIte, and_true, true_and, eq_self, Int.add_zero, Int.reduceAdd]; omega) | (simp (disch := omega) only [sA_same, sA_ne, ud_eq, ud_ne, Int.add_zero, Int.reduceAdd]; omega)) (by first | omega | (simp only [sA_same, sA_s, ud_s, Int.reduceEq, if_true, if_false, ite_true, ite_false, ↓reduceIte, and_true, true_and, eq_self, Int.add_zero, Int.reduceAdd]; omega) | (simp (disch := omega) only [sA_same, sA_ne, ud_eq, ud_ne, Int.add_zero, Int.reduceAdd]; omega)) (by simp (disch := omega) only [sA_same, sA_ne, sA_sA, sA_sr, sB_s, ud_eq, ud_ne, ud_ud, ud_sr, uB_s, Int.add_zero, Int.reduceAdd]; exact i5) (JC_fr (fun a ha => by simp (disch := omega) only [sA_ne]) _ _ _ (hJ j hj.1 hj.2).1) (fun fo fc hfo hfc hfcv => ?_)
  (try simp (disch := omega) only [sA_same, sA_ne, sA_sA, sA_sr, sB_s, ud_eq, ud_ne, ud_ud, ud_sr, uB_s, Int.add_zero, Int.reduceAdd])
  refine v_aload_n (n := 58) xB_87 dX10_rightsBehind_57 rfl rfl ?_
  refine v_gf_s (n := 61) (kz := 8) xB_87 dX10_rightsBehind_58 xO_87 fl_10_48 fg_10_8 (sh_0 _ _ _) rfl st_0_8 rfl ?_
  refine v_call_v (n := 64) xB_87 dX10_rightsBehind_61 xO_87 iv_10_138 rfl (sh_64 _ _ _) rfl rfl rfl ?_
  refine k_rights (by omega) (Or.inr (Or.inr (Or.inr rfl))) (by first | omega | (simp only [sA_same, sA_s, ud_s, Int.reduceEq, if_true, if_false, ite_true, ite_false, ↓reduceIte, and_true, true_and, eq_self, Int.add_zero, Int.reduceAdd]; omega) | (simp (disch := omega) only [sA_same, sA_ne, ud_eq, ud_ne, Int.add_zero, Int.reduceAdd]; omega)) (by simp (disch := omega) only [sA_same, sA_ne, sA_sA, sA_sr, sB_s, ud_eq, ud_ne, ud_ud, ud_sr, uB_s, Int.add_zero, Int.reduceAdd]; exact hfc) ?_
  refine v_ireturn0 xB_87 dX10_rightsBehind_64 xK_87 ?_
  simp (disch := omega) only [sA_same, sA_ne, sA_sA, sA_sr, sB_s, ud_eq, ud_ne, ud_ud, ud_sr, uB_s, Int.add_zero, Int.reduceAdd, hN1, i1, i2] at hfcv
  refine q_eqI (o1 _ ?_ ?_ ?_) ?_
  · refine ⟨fun a ha => by simp (disch := omega) only [sA_ne], ?_, ?_, ?_⟩
    · simp (disch := omega) only [sA_same, sA_ne, sA_sA, sA_sr, sB_s, ud_eq, ud_ne, ud_ud, ud_sr, uB_s, Int.add_zero, Int.reduceAdd]; exact hfo
    · simp (disch := omega) only [sA_same, sA_ne, sA_sA, sA_sr, sB_s, ud_eq, ud_ne, ud_ud, ud_sr, uB_s, Int.add_zero, Int.reduceAdd]; exact hI.2.1.2.1
    · simp (disch := omega) only [sA_same, sA_ne, sA_sA, sA_sr, sB_s, ud_eq, ud_ne, ud_ud, ud_sr, uB_s, Int.add_zero, Int.reduceAdd]; exact hfc
  · simp (disch := omega) only [sA_same, sA_ne, sA_sA, sA_sr, sB_s, ud_eq, ud_ne, ud_ud, ud_sr, uB_s, Int.add_zero, Int.reduceAdd]
  · simp (disch := omega) only [sA_same, sA_ne, sA_sA, sA_sr, sB_s, ud_eq, ud_ne, ud_ud, ud_sr, uB_s, Int.add_zero, Int.reduceAdd]
  · simp (disch := omega) only [sA_same, sA_ne, sA_sA, sA_sr, sB_s, ud_eq, ud_ne, ud_ud, ud_sr, uB_s, Int.add_zero, Int.reduceAdd, hN1]
    unfold R2
    refine rtF_congr (fun s a b => ?_)
    rw [hfcv s a b]
    unfold RQ
    refine cF_congr (fun x a b => ?_) (fun i a b => (i6 i a b).symm) a b
    rw [hfv x a b]
    exact wyF_congr (fun y a b => by rw [cp12_at ⟨a, by omega⟩, hc1 y a b]) a b
