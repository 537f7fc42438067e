/-! A job: the class against the reference. -/
set_option maxHeartbeats 1000000 in
theorem k_fault {d : Nat}  {m : PM} {dy : List (Nat × Nat)} {L : Nat} {Q : Option PV → PS → Prop} (hd : 1 ≤ d)  (o1 : Q (some (.inl (m 53 2))) (m, (none, (dy, L)))) : C d 40 [.inr (.inr 53)] (m, (none, (dy, L))) Q := by
  refine C_go (k := 0) hd xL_40 (fun d hd => ?_)
  show V d 40 (0, ([some (.inr (.inr 53))], ([], (m, (none, (dy, L)))))) Q
  refine v_aload_n (n := 1) xB_40 dX5_fault_0 rfl rfl ?_
  refine v_gf_i (n := 4) (kz := 2) xB_40 dX5_fault_1 xO_40 fl_5_28 fg_5_2 rfl (sh_53 _ _ _) rfl rfl ?_
  refine v_ireturn0 xB_40 dX5_fault_4 xK_40 ?_
  exact o1
theorem jn_len (A S : List Int) : (jn A S).length ≤ A.length + S.length + 1 := by
  unfold jn
  by_cases h : A = []
  · rw [if_pos h]; omega
  · rw [if_neg h, List.length_append, List.length_append, List.length_singleton]; omega
theorem stW_1 (CL : CLs) (w : Int) (x : Int × (Int × List Int)) : (stW (CL ++ [x]) w).length ≤ (stW CL w).length + x.2.2.length + 1 := by
  rw [stW_snoc]
  by_cases h : x.1 = w
  · rw [if_pos h]; exact jn_len _ _
  · rw [if_neg h]; omega
theorem cs_len (T : Int → Int) {n : Int} (w : Int) : ∀ (k : Nat) (a : Int) (CL : CLs), a ≤ n → ((stW CL w).length : Int) ≤ a → (csF T n k a CL).1 = true → ((stW (csF T n k a CL).2.2 w).length : Int) + 4 ≤ (csF T n k a CL).2.1 := by
  intro k
  induction k with
  | zero => intro a CL h1 h2 h; cases h
  | succ k ih =>
    intro a CL h1 h2 h
    obtain ⟨n1, n2, n3⟩ := clF_in T (n := n) (a := a) h1
    rw [csF] at h ⊢
    by_cases hc : (clF T n a).1 = false
    · rw [if_pos hc] at h; cases h
    · rw [if_neg hc] at h ⊢
      have hc2 : (clF T n a).1 = true := by cases hx : (clF T n a).1 with
        | true => rfl
        | false => exact absurd hx hc
      obtain ⟨n4, n5, n6⟩ := n3 hc2
      have hl := stW_1 CL w (clF T n a).2.2
      by_cases hx : n ≤ (clF T n a).2.1
      · rw [if_pos hx]; dsimp only; omega
      · rw [if_neg hx] at h ⊢
        by_cases hy : k = 0 ∨ nxt T n (clF T n a).2.1 ≠ 59
        · rw [if_pos hy] at h; cases h
        · rw [if_neg hy] at h ⊢
          exact ih _ _ (by omega) (by omega) h
set_option maxHeartbeats 2000000 in
theorem k_job {d : Nat} {m : PM} {dy : List (Nat × Nat)} {L : Nat} {Q : Option PV → PS → Prop} (hd : 48 ≤ d) (hK : KT m) (h5 : 0 ≤ m 0 5 ∧ m 0 5 ≤ 6) (hn : 0 ≤ m 53 1 ∧ m 53 1 ≤ 100) (ht : ∀ i, 0 ≤ i → i < m 53 1 → 0 ≤ m 54 i ∧ m 54 i ≤ 127) (o1 : m 0 5 = 6 → Q (some (.inl (-4))) (m, (none, (dy, L)))) (o2 : m 0 5 < 6 ∧ (csF (m 54) (m 53 1) 10 0 []).1 = true → ∀ m' : PM, (∀ a : Int, a < 129 + dy.length → a ≠ 0 → a ≠ 59 → a < 53 ∨ 58 < a → m' a = m a) → (∀ k : Int, k ≠ 5 → m' 0 k = m 0 k) → m' 0 5 = m 0 5 + 1 → m' 54 = m 54 → m' 53 1 = 0 → m' 59 = ud (m 59) (m 0 5) ((129 + dy.length : Nat) : Int) → JC m' (((dy ++ [(0, 2)]) ++ [(1, (stW (csF (m 54) (m 53 1) 10 0 []).2.2 2).length)]) ++ [(1, (stW (csF (m 54) (m 53 1) 10 0 []).2.2 3).length)]) ((129 + dy.length : Nat) : Int) (csF (m 54) (m 53 1) 10 0 []).2.2 → okCL (csF (m 54) (m 53 1) 10 0 []).2.2 → Q (some (.inl (m 0 5))) (m', (none, ((((dy ++ [(0, 2)]) ++ [(1, (stW (csF (m 54) (m 53 1) 10 0 []).2.2 2).length)]) ++ [(1, (stW (csF (m 54) (m 53 1) 10 0 []).2.2 3).length)]), L)))) (o3 : m 0 5 < 6 ∧ (csF (m 54) (m 53 1) 10 0 []).1 = false → ∀ m' : PM, (∀ a : Int, a < 53 ∨ 58 < a → m' a = m a) → m' 54 = m 54 → m' 53 1 = 0 → Q (some (.inl (-10 - (csF (m 54) (m 53 1) 10 0 []).2.1))) (m', (none, (dy, L)))) : C d 77 [.inr (.inr 0)] (m, (none, (dy, L))) Q := by
  refine C_go (k := 47) hd xL_77 (fun d hd => ?_)
  show V d 77 (0, ([some (.inr (.inr 0)), none], ([], (m, (none, (dy, L)))))) Q
  obtain ⟨z1, z2, z3, z4⟩ := csF_in (m 54) (n := m 53 1) 10 0 [] (Int.le_refl 0) hn.1 (fun x hx => by cases hx)
  refine v_aload_n (n := 1) xB_77 dX10_job_0 rfl rfl ?_
  refine v_gf_i (n := 4) (kz := 5) xB_77 dX10_job_1 xO_77 fl_10_73 fg_10_5 rfl (sh_0 _ _ _) rfl rfl ?_
  refine v_bipush (n := 6) xB_77 dX10_job_4 ⟨by decide, by decide⟩ rfl ?_
  refine v_ic_lt (t := 12) (n := 9) xB_77 dX10_job_6 (by decide) rfl rfl (fun g1 => ?_) (fun g1 => ?_)
  · (try simp (disch := omega) only [sA_same, sA_ne, sA_sA, sA_sr, sB_s, ud_eq, ud_ne, ud_ud, ud_sr, uB_s, Int.add_zero, Int.reduceAdd] at g1)
    refine v_aload_n (n := 13) xB_77 dX10_job_12 rfl rfl ?_
    refine v_gf_s (n := 16) (kz := 3) xB_77 dX10_job_13 xO_77 fl_10_24 fg_10_3 (sh_0 _ _ _) rfl st_0_3 rfl ?_
    skip
    refine v_call_v (n := 19) xB_77 dX10_job_16 xO_77 iv_10_116 rfl (sh_53 _ _ _) rfl rfl rfl ?_
    refine k_clauses (by omega) hK (by first | omega | (simp only [sA_same, sA_s, ud_s, Int.reduceEq, if_true, if_false, ite_true, ite_false, ↓reduceIte, and_true, true_and, eq_self, Int.add_zero, Int.reduceAdd]; omega) | (simp (disch := omega) only [sA_same, sA_ne, ud_eq, ud_ne, Int.add_zero, Int.reduceAdd]; omega)) ht (fun gT mA hG => ?_) (fun gT mA hG => ?_)
    · refine v_if_eq_n (n := 22) xB_77 dX10_job_19 (by decide) rfl (by decide) ?_
      refine v_aload_n (n := 23) xB_77 dX10_job_22 rfl rfl ?_
      refine v_gf_s (n := 26) (kz := 4) xB_77 dX10_job_23 xO_77 fl_10_30 fg_10_4 (sh_0 _ _ _) rfl st_0_4 rfl ?_
      refine v_aload_n (n := 27) xB_77 dX10_job_26 rfl rfl ?_
      refine v_gf_i (n := 30) (kz := 5) xB_77 dX10_job_27 xO_77 fl_10_73 fg_10_5 rfl (sh_0 _ _ _) rfl rfl ?_
      refine v_aload_n (n := 31) xB_77 dX10_job_30 rfl rfl ?_
      refine v_gf_s (n := 34) (kz := 3) xB_77 dX10_job_31 xO_77 fl_10_24 fg_10_3 (sh_0 _ _ _) rfl st_0_3 rfl ?_
      refine v_call_v (n := 37) xB_77 dX10_job_34 xO_77 iv_10_120 rfl (sh_53 _ _ _) rfl rfl rfl ?_
      refine k_made (CL := (csF (m 54) (m 53 1) 10 0 []).2.2) (by omega) hG.2.1 hG.2.2.1 hG.2.2.2.1 hG.2.2.2.2.1 ⟨by have := cs_len (m 54) 2 10 0 [] hn.1 (Int.le_refl 0) gT; omega, by have := cs_len (m 54) 3 10 0 [] hn.1 (Int.le_refl 0) gT; omega⟩ z3 (fun mB hB hJC => ?_)
      have b5 : mB 0 5 = m 0 5 := by rw [hB 0 (by omega)]; exact congrFun (hG.1.1 0 (by omega)) 5
      have b59 : mB 59 = m 59 := by rw [hB 59 (by omega)]; exact hG.1.1 59 (by omega)
      have b0 : mB 0 = m 0 := by rw [hB 0 (by omega)]; exact hG.1.1 0 (by omega)
      have y5 : mA 0 5 = m 0 5 := congrFun (hG.1.1 0 (by omega)) 5
      rw [y5]
      refine v_aast (n := 38) (lz := 6) xB_77 dX10_job_37 (sh_59 _ _ _) (by decide) (by decide) rfl (by first | omega | (simp only [sA_same, sA_s, ud_s, Int.reduceEq, if_true, if_false, ite_true, ite_false, ↓reduceIte, and_true, true_and, eq_self, Int.add_zero, Int.reduceAdd]; omega) | (simp (disch := omega) only [sA_same, sA_ne, ud_eq, ud_ne, Int.add_zero, Int.reduceAdd]; omega)) (by omega) (sh_dyn' (by omega) hJC.1.2.1 _ _) (st_59 (by omega)) rfl ?_
      (try simp (disch := omega) only [sA_same, sA_ne, sA_sA, sA_sr, sB_s, ud_eq, ud_ne, ud_ud, ud_sr, uB_s, Int.add_zero, Int.reduceAdd])
      refine v_aload_n (n := 39) xB_77 dX10_job_38 rfl rfl ?_
      refine v_gf_i (n := 42) (kz := 5) xB_77 dX10_job_39 xO_77 fl_10_73 fg_10_5 rfl (sh_0 _ _ _) rfl rfl ?_
      refine v_istore_n1 (n := 43) xB_77 dX10_job_42 rfl rfl ?_
      refine v_aload_n (n := 44) xB_77 dX10_job_43 rfl rfl ?_
      refine v_dup (n := 45) xB_77 dX10_job_44 rfl rfl ?_
      refine v_gf_i (n := 48) (kz := 5) xB_77 dX10_job_45 xO_77 fl_10_73 fg_10_5 rfl (sh_0 _ _ _) rfl rfl ?_
      refine v_iconst (n := 49) xB_77 dX10_job_48 ⟨by decide, by decide⟩ rfl ?_
      refine v_iadd (n := 50) xB_77 dX10_job_49 (by first | omega | (simp only [sA_same, sA_s, ud_s, Int.reduceEq, if_true, if_false, ite_true, ite_false, ↓reduceIte, and_true, true_and, eq_self, Int.add_zero, Int.reduceAdd]; omega) | (simp (disch := omega) only [sA_same, sA_ne, ud_eq, ud_ne, Int.add_zero, Int.reduceAdd]; omega)) rfl ?_
      refine v_pf_i (n := 53) (kz := 5) xB_77 dX10_job_50 xO_77 fl_10_73 fg_10_5 (Or.inl fn_10_5) (sh_0 _ _ _) (by decide) rfl rfl ?_
      (try simp (disch := omega) only [sA_same, sA_ne, sA_sA, sA_sr, sB_s, ud_eq, ud_ne, ud_ud, ud_sr, uB_s, Int.add_zero, Int.reduceAdd])
      refine v_goto (t := 67) xB_77 dX10_job_53 (by decide) rfl ?_
      refine v_aload_n (n := 68) xB_77 dX10_job_67 rfl rfl ?_
      refine v_gf_s (n := 71) (kz := 3) xB_77 dX10_job_68 xO_77 fl_10_24 fg_10_3 (sh_0 _ _ _) rfl st_0_3 rfl ?_
      refine v_iconst (n := 72) xB_77 dX10_job_71 ⟨by decide, by decide⟩ rfl ?_
      refine v_pf_i (n := 75) (kz := 1) xB_77 dX10_job_72 xO_77 fl_10_112 fg_5_1 (Or.inl fn_5_1) (sh_53 _ _ _) (by decide) rfl rfl ?_
      (try simp (disch := omega) only [sA_same, sA_ne, sA_sA, sA_sr, sB_s, ud_eq, ud_ne, ud_ud, ud_sr, uB_s, Int.add_zero, Int.reduceAdd])
      refine v_iload_n (n := 76) xB_77 dX10_job_75 rfl rfl ?_
      refine v_ireturn0 xB_77 dX10_job_76 xK_77 ?_
      first
      | exact o1 (by omega)
      | ((try simp (disch := omega) only [sA_same, sA_ne, sA_sA, sA_sr, sB_s, ud_eq, ud_ne, ud_ud, ud_sr, uB_s, Int.add_zero, Int.reduceAdd])
         rw [e7]
         exact o3 ⟨by omega, gT⟩ _ (fun a ha => by rw [sA_ne (by omega)]; exact hG.1 a ha) (by rw [sA_ne (by omega)]; exact hG.2.1) (by rw [sA_same, ud_eq]))
      | ((try simp (disch := omega) only [sA_same, sA_ne, sA_sA, sA_sr, sB_s, ud_eq, ud_ne, ud_ud, ud_sr, uB_s, Int.add_zero, Int.reduceAdd])
         simp only [b5, b59] at *
         refine o2 ⟨by omega, gT⟩ _ (fun a p q r s => ?_) (fun k hk => ?_) ?_ ?_ ?_ ?_ ?_ z3
         · simp (disch := omega) only [sA_ne]; rw [hB a (by omega)]; exact hG.1.1 a s
         · simp (disch := omega) only [sA_ne, sA_same, ud_ne]; rw [b0]
         · simp (disch := omega) only [sA_ne, sA_same, ud_eq]
         · simp (disch := omega) only [sA_ne]; rw [hB 54 (by omega)]; exact hG.1.2.1
         · simp (disch := omega) only [sA_ne, sA_same, ud_eq]
         · simp (disch := omega) only [sA_ne, sA_same]
         · exact JC_fr (fun a ha => by simp (disch := omega) only [sA_ne]) _ _ _ hJC)
    · have e7 : mA 53 2 = (csF (m 54) (m 53 1) 10 0 []).2.1 := hG.2.2.2
      refine v_if_eq_y (t := 56) xB_77 dX10_job_19 (by decide) rfl (by decide) ?_
      refine v_bipush (n := 58) xB_77 dX10_job_56 ⟨by decide, by decide⟩ rfl ?_
      refine v_aload_n (n := 59) xB_77 dX10_job_58 rfl rfl ?_
      refine v_gf_s (n := 62) (kz := 3) xB_77 dX10_job_59 xO_77 fl_10_24 fg_10_3 (sh_0 _ _ _) rfl st_0_3 rfl ?_
      refine v_call_v (n := 65) xB_77 dX10_job_62 xO_77 iv_10_124 rfl (sh_53 _ _ _) rfl rfl rfl ?_
      refine k_fault (by omega)  ?_
      refine v_isub (n := 66) xB_77 dX10_job_65 (by first | omega | (simp only [sA_same, sA_s, ud_s, Int.reduceEq, if_true, if_false, ite_true, ite_false, ↓reduceIte, and_true, true_and, eq_self, Int.add_zero, Int.reduceAdd]; omega) | (simp (disch := omega) only [sA_same, sA_ne, ud_eq, ud_ne, Int.add_zero, Int.reduceAdd]; omega)) rfl ?_
      refine v_istore_n1 (n := 67) xB_77 dX10_job_66 rfl rfl ?_
      refine v_aload_n (n := 68) xB_77 dX10_job_67 rfl rfl ?_
      refine v_gf_s (n := 71) (kz := 3) xB_77 dX10_job_68 xO_77 fl_10_24 fg_10_3 (sh_0 _ _ _) rfl st_0_3 rfl ?_
      refine v_iconst (n := 72) xB_77 dX10_job_71 ⟨by decide, by decide⟩ rfl ?_
      refine v_pf_i (n := 75) (kz := 1) xB_77 dX10_job_72 xO_77 fl_10_112 fg_5_1 (Or.inl fn_5_1) (sh_53 _ _ _) (by decide) rfl rfl ?_
      (try simp (disch := omega) only [sA_same, sA_ne, sA_sA, sA_sr, sB_s, ud_eq, ud_ne, ud_ud, ud_sr, uB_s, Int.add_zero, Int.reduceAdd])
      refine v_iload_n (n := 76) xB_77 dX10_job_75 rfl rfl ?_
      refine v_ireturn0 xB_77 dX10_job_76 xK_77 ?_
      first
      | exact o1 (by omega)
      | ((try simp (disch := omega) only [sA_same, sA_ne, sA_sA, sA_sr, sB_s, ud_eq, ud_ne, ud_ud, ud_sr, uB_s, Int.add_zero, Int.reduceAdd])
         rw [e7]
         exact o3 ⟨by omega, gT⟩ _ (fun a ha => by rw [sA_ne (by omega)]; exact hG.1 a ha) (by rw [sA_ne (by omega)]; exact hG.2.1) (by rw [sA_same, ud_eq]))
      | ((try simp (disch := omega) only [sA_same, sA_ne, sA_sA, sA_sr, sB_s, ud_eq, ud_ne, ud_ud, ud_sr, uB_s, Int.add_zero, Int.reduceAdd])
         simp only [b5, b59] at *
         refine o2 ⟨by omega, gT⟩ _ (fun a p q r s => ?_) (fun k hk => ?_) ?_ ?_ ?_ ?_ ?_ z3
         · simp (disch := omega) only [sA_ne]; rw [hB a (by omega)]; exact hG.1.1 a s
         · simp (disch := omega) only [sA_ne, sA_same, ud_ne]; rw [b0]
         · simp (disch := omega) only [sA_ne, sA_same, ud_eq]
         · simp (disch := omega) only [sA_ne]; rw [hB 54 (by omega)]; exact hG.1.2.1
         · simp (disch := omega) only [sA_ne, sA_same, ud_eq]
         · simp (disch := omega) only [sA_ne, sA_same]
         · exact JC_fr (fun a ha => by simp (disch := omega) only [sA_ne]) _ _ _ hJC)
  · (try simp (disch := omega) only [sA_same, sA_ne, sA_sA, sA_sr, sB_s, ud_eq, ud_ne, ud_ud, ud_sr, uB_s, Int.add_zero, Int.reduceAdd] at g1)
    refine v_bipush (n := 11) xB_77 dX10_job_9 ⟨by decide, by decide⟩ rfl ?_
    refine v_ireturn0 xB_77 dX10_job_11 xK_77 ?_
    first
    | exact o1 (by omega)
    | ((try simp (disch := omega) only [sA_same, sA_ne, sA_sA, sA_sr, sB_s, ud_eq, ud_ne, ud_ud, ud_sr, uB_s, Int.add_zero, Int.reduceAdd])
       rw [e7]
       exact o3 ⟨by omega, gT⟩ _ (fun a ha => by rw [sA_ne (by omega)]; exact hG.1 a ha) (by rw [sA_ne (by omega)]; exact hG.2.1) (by rw [sA_same, ud_eq]))
    | ((try simp (disch := omega) only [sA_same, sA_ne, sA_sA, sA_sr, sB_s, ud_eq, ud_ne, ud_ud, ud_sr, uB_s, Int.add_zero, Int.reduceAdd])
       simp only [b5, b59] at *
       refine o2 ⟨by omega, gT⟩ _ (fun a p q r s => ?_) (fun k hk => ?_) ?_ ?_ ?_ ?_ ?_ z3
       · simp (disch := omega) only [sA_ne]; rw [hB a (by omega)]; exact hG.1.1 a s
       · simp (disch := omega) only [sA_ne, sA_same, ud_ne]; rw [b0]
       · simp (disch := omega) only [sA_ne, sA_same, ud_eq]
       · simp (disch := omega) only [sA_ne]; rw [hB 54 (by omega)]; exact hG.1.2.1
       · simp (disch := omega) only [sA_ne, sA_same, ud_eq]
       · simp (disch := omega) only [sA_ne, sA_same]
       · exact JC_fr (fun a ha => by simp (disch := omega) only [sA_ne]) _ _ _ hJC)
