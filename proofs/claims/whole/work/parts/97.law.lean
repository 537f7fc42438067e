/-! The law: its loop. -/
theorem sh_sc (m : PM) (d : List (Nat × Nat)) (L : Nat) : shp (m, (none, (d, L))) (-3) = (1, L) := Eq.trans rfl rfl
theorem rd_I {m0 : PM} {L μx μm : Nat} {ax am : List PV} (hp : PairI m0 L μx μm ax am) {m : PM} {dy : List (Nat × Nat)} {d : Nat} {W : Option PV → PS → Prop} (hd : 60 ≤ d) (hI : Inv m0 m dy) (h : ∀ (v : Int) (m1 : PM) (dy1 : List (Nat × Nat)), (∀ x : Int, x < 0 → m1 x = m x) → (∀ (D2 : Nat) (W2 : Option PV → PS → Prop), 60 ≤ D2 → (∀ m2, Inv m0 m2 dy1 → W2 (some (.inl v)) (m2, (none, (dy1, L)))) → C D2 μm am (m1, (none, (dy1, L))) W2) → W (some (.inl v)) (m1, (none, (dy1, L)))) : C d μx ax (m, (none, (dy, L))) W := by
  have := hp m dy hI d (fun r σ' => (∀ x : Int, x < 0 → σ'.1 x = m x) → W r σ') hd (fun v m1 dy1 hM hn => h v m1 dy1 hn hM)
  exact C_mono (C_ng this) (fun r σ' q => q.1 q.2)
theorem rd_L {m0 : PM} {L μx μm : Nat} {ax am : List PV} (hp : PairL m0 L μx μm ax am) {m : PM} {dy : List (Nat × Nat)} {d : Nat} {W : Option PV → PS → Prop} (hd : 60 ≤ d) (hI : Inv m0 m dy) (h : ∀ (v : Int) (m1 : PM) (dy1 : List (Nat × Nat)), (∀ x : Int, x < 0 → m1 x = m x) → (∀ (D2 : Nat) (W2 : Option PV → PS → Prop), 60 ≤ D2 → (∀ m2, Inv m0 m2 dy1 → W2 (some (.inr (.inl v))) (m2, (none, (dy1, L)))) → C D2 μm am (m1, (none, (dy1, L))) W2) → W (some (.inr (.inl v))) (m1, (none, (dy1, L)))) : C d μx ax (m, (none, (dy, L))) W := by
  have := hp m dy hI d (fun r σ' => (∀ x : Int, x < 0 → σ'.1 x = m x) → W r σ') hd (fun v m1 dy1 hM hn => h v m1 dy1 hn hM)
  exact C_mono (C_ng this) (fun r σ' q => q.1 q.2)
theorem lc_vv (v : Int) : lCmp v v = 0 := by unfold lCmp; rw [if_neg (by omega), if_pos rfl]
theorem nfT_le (c : Nat) : nfT c ≤ 1000 := by
  unfold nfT
  by_cases h : c < q_ft.length
  · have key : ∀ x ∈ q_ft, x.length ≤ 1000 := by decide +kernel
    rw [List.getD_eq_getElem?_getD, List.getElem?_eq_getElem h]
    exact key _ (List.getElem_mem h)
  · rw [List.getD_eq_getElem?_getD, List.getElem?_eq_none (by omega)]
    exact Nat.zero_le _
theorem sz_129 : ((List.range NB).map (fun i => siz1 (dSh i))).sum ≤ 100000 := by decide +kernel
theorem sz_dy : ∀ dy : List (Nat × Nat), (∀ q ∈ dy, q.1 ≤ 1 ∧ q.2 ≤ 1000) → (dy.map siz1).sum ≤ 1000 * dy.length := by
  intro dy
  induction dy with
  | nil => intro _; exact Nat.le_refl _
  | cons q dy ih =>
    intro h
    have h1 := ih (fun x hx => h x (List.mem_cons_of_mem _ hx))
    have h2 : siz1 q ≤ 1000 := by
      have := h q List.mem_cons_self
      unfold siz1
      split
      · exact nfT_le _
      · exact this.2
    rw [List.map_cons, List.sum_cons, List.length_cons]
    omega
theorem fin_ok {m0 m : PM} {dy : List (Nat × Nat)} {L : Nat} (h : Inv m0 m dy) : tot (m, (none, (dy, L))) ≤ 600000 ∧ siz (m, (none, (dy, L))) ≤ 7302250 := by
  have hJb := h.2.2.2.2.2.2.2.2.2.2.2.1
  have j1 := hJb.1
  have j3 := hJb.2.2.1
  have h1 := sz_dy dy hJb.2.2.2.1.1
  have h2 := sz_129
  refine ⟨?_, ?_⟩
  · show NB + dy.length ≤ 600000
    have : NB = 129 := rfl
    omega
  · show ((List.range NB).map (fun i => siz1 (dSh i))).sum + (dy.map siz1).sum ≤ 7302250
    omega
def QF : Option PV → PS → Prop := fun r σ' => r = some (.inl 1) ∧ tot σ' ≤ 600000 ∧ siz σ' ≤ 7302250
set_option maxHeartbeats 16000000 in
set_option maxRecDepth 4000 in
theorem law_loop {L : Nat} {m0 : PM} (hL : L ≤ 3072) (hX : ∀ j : Int, -2147483648 ≤ m0 (-3) j ∧ m0 (-3) j < 2147483648) (hL0 : ∀ i : Nat, i < 16 → m0 94 i = ltr i) (hK0 : KT m0) (hKB : ∀ i : Nat, i < 7 → m0 (-2) i = kbF i) : ∀ (F : Nat) (i : Int) (m : PM) (dy : List (Nat × Nat)), Inv m0 m dy → 0 ≤ i → i ≤ 3080 → (L : Int) - i < 6 * F → V 100 232 (18, ([some (.inr (.inr (-3))), some (.inr (.inr 0)), some (.inr (.inr 81)), some (.inl i)], ([], (m, (none, (dy, L)))))) QF := by
  intro F
  induction F with
  | zero =>
    intro i m dy hI h0 h1 hF
    refine v_iload_n (n := 19) xB_232 dL_law_18 rfl rfl ?_
    refine v_aload_n (n := 20) xB_232 dL_law_19 rfl rfl ?_
    refine v_alen (n := 21) (lz := (L : Int)) xB_232 dL_law_20 (sh_sc _ _ _) (by decide) rfl rfl ?_
    refine v_bipush (n := 23) xB_232 dL_law_21 ⟨by decide, by decide⟩ rfl ?_
    refine v_isub (n := 24) xB_232 dL_law_23 (by first | omega | (simp only [sA_same, sA_s, ud_s, Int.reduceEq, if_true, if_false, ite_true, ite_false, ↓reduceIte, and_true, true_and, eq_self, Int.add_zero, Int.reduceAdd]; omega) | (simp (disch := omega) only [sA_same, sA_ne, ud_eq, ud_ne, Int.add_zero, Int.reduceAdd]; omega)) rfl ?_
    refine v_ic_gt_y (t := 1463) xB_232 dL_law_24 (by decide) rfl (by first | omega | (simp only [sA_same, sA_s, ud_s, Int.reduceEq, if_true, if_false, ite_true, ite_false, ↓reduceIte, and_true, true_and, eq_self, Int.add_zero, Int.reduceAdd]; omega) | (simp (disch := omega) only [sA_same, sA_ne, ud_eq, ud_ne, Int.add_zero, Int.reduceAdd]; omega)) ?_
    refine v_iconst (n := 1464) xB_232 dL_law_1463 ⟨by decide, by decide⟩ rfl ?_
    refine v_ireturn1 xB_232 dL_law_1464 xK_232 (by decide) ?_
    exact ⟨rfl, fin_ok hI⟩
  | succ F ih =>
    intro i m dy hI h0 h1 hF
    have hm3 : m (-3) = m0 (-3) := hI.2.2.2.2.2.2.2.2.2.2.2.2.1 (-3) (by omega)
    refine v_iload_n (n := 19) xB_232 dL_law_18 rfl rfl ?_
    refine v_aload_n (n := 20) xB_232 dL_law_19 rfl rfl ?_
    refine v_alen (n := 21) (lz := (L : Int)) xB_232 dL_law_20 (sh_sc _ _ _) (by decide) rfl rfl ?_
    refine v_bipush (n := 23) xB_232 dL_law_21 ⟨by decide, by decide⟩ rfl ?_
    refine v_isub (n := 24) xB_232 dL_law_23 (by first | omega | (simp only [sA_same, sA_s, ud_s, Int.reduceEq, if_true, if_false, ite_true, ite_false, ↓reduceIte, and_true, true_and, eq_self, Int.add_zero, Int.reduceAdd]; omega) | (simp (disch := omega) only [sA_same, sA_ne, ud_eq, ud_ne, Int.add_zero, Int.reduceAdd]; omega)) rfl ?_
    refine v_ic_gt (t := 1463) (n := 27) xB_232 dL_law_24 (by decide) rfl rfl (fun g1 => ?_) (fun g1 => ?_)
    · refine v_iconst (n := 1464) xB_232 dL_law_1463 ⟨by decide, by decide⟩ rfl ?_
      refine v_ireturn1 xB_232 dL_law_1464 xK_232 (by decide) ?_
      exact ⟨rfl, fin_ok hI⟩
    · refine v_aload_n (n := 28) xB_232 dL_law_27 rfl rfl ?_
      refine v_iload_n (n := 29) xB_232 dL_law_28 rfl rfl ?_
      refine v_iaload (n := 30) (lz := (L : Int)) xB_232 dL_law_29 (sh_sc _ _ _) rfl (by first | omega | (simp only [sA_same, sA_s, ud_s, Int.reduceEq, if_true, if_false, ite_true, ite_false, ↓reduceIte, and_true, true_and, eq_self, Int.add_zero, Int.reduceAdd]; omega) | (simp (disch := omega) only [sA_same, sA_ne, ud_eq, ud_ne, Int.add_zero, Int.reduceAdd]; omega)) rfl ?_
      refine v_bipush (n := 32) xB_232 dL_law_30 ⟨by decide, by decide⟩ rfl ?_
      refine v_iand (n := 33) xB_232 dL_law_32 rfl ?_
      refine v_tsw xB_232 dL_law_33 rfl ?_
      refine ts_c (lo' := 1) rfl (fun g2 => ?_) (fun g2 => ?_)
      · refine jm_go (t := 200) (by decide) rfl ?_
        refine v_aload_n (n := 201) xB_232 dL_law_200 rfl rfl ?_
        refine v_aload_n (n := 202) xB_232 dL_law_201 rfl rfl ?_
        refine v_iload_n (n := 203) xB_232 dL_law_202 rfl rfl ?_
        refine v_iconst (n := 204) xB_232 dL_law_203 ⟨by decide, by decide⟩ rfl ?_
        refine v_iadd (n := 205) xB_232 dL_law_204 (by first | omega | (simp only [sA_same, sA_s, ud_s, Int.reduceEq, if_true, if_false, ite_true, ite_false, ↓reduceIte, and_true, true_and, eq_self, Int.add_zero, Int.reduceAdd]; omega) | (simp (disch := omega) only [sA_same, sA_ne, ud_eq, ud_ne, Int.add_zero, Int.reduceAdd]; omega)) rfl ?_
        refine v_iaload (n := 206) (lz := (L : Int)) xB_232 dL_law_205 (sh_sc _ _ _) rfl (by first | omega | (simp only [sA_same, sA_s, ud_s, Int.reduceEq, if_true, if_false, ite_true, ite_false, ↓reduceIte, and_true, true_and, eq_self, Int.add_zero, Int.reduceAdd]; omega) | (simp (disch := omega) only [sA_same, sA_ne, ud_eq, ud_ne, Int.add_zero, Int.reduceAdd]; omega)) rfl ?_
        refine v_aload_n (n := 207) xB_232 dL_law_206 rfl rfl ?_
        refine v_iload_n (n := 208) xB_232 dL_law_207 rfl rfl ?_
        refine v_iconst (n := 209) xB_232 dL_law_208 ⟨by decide, by decide⟩ rfl ?_
        refine v_iadd (n := 210) xB_232 dL_law_209 (by first | omega | (simp only [sA_same, sA_s, ud_s, Int.reduceEq, if_true, if_false, ite_true, ite_false, ↓reduceIte, and_true, true_and, eq_self, Int.add_zero, Int.reduceAdd]; omega) | (simp (disch := omega) only [sA_same, sA_ne, ud_eq, ud_ne, Int.add_zero, Int.reduceAdd]; omega)) rfl ?_
        refine v_iaload (n := 211) (lz := (L : Int)) xB_232 dL_law_210 (sh_sc _ _ _) rfl (by first | omega | (simp only [sA_same, sA_s, ud_s, Int.reduceEq, if_true, if_false, ite_true, ite_false, ↓reduceIte, and_true, true_and, eq_self, Int.add_zero, Int.reduceAdd]; omega) | (simp (disch := omega) only [sA_same, sA_ne, ud_eq, ud_ne, Int.add_zero, Int.reduceAdd]; omega)) rfl ?_
        (try rw [hm3])
        refine v_call_v (n := 214) xB_232 dL_law_211 xO_232 iv_17_13 rfl (sh_0 _ _ _) rfl rfl rfl ?_
        refine rd_I (p_tray m0 L _ _) (by omega) hI (fun v m1 dy1 hng hM => ?_)
        have e3 : m1 (-3) = m (-3) := hng (-3) (by omega)
        refine v_aload_n (n := 215) xB_232 dL_law_214 rfl rfl ?_
        refine v_aload_n (n := 216) xB_232 dL_law_215 rfl rfl ?_
        refine v_iload_n (n := 217) xB_232 dL_law_216 rfl rfl ?_
        refine v_iconst (n := 218) xB_232 dL_law_217 ⟨by decide, by decide⟩ rfl ?_
        refine v_iadd (n := 219) xB_232 dL_law_218 (by first | omega | (simp only [sA_same, sA_s, ud_s, Int.reduceEq, if_true, if_false, ite_true, ite_false, ↓reduceIte, and_true, true_and, eq_self, Int.add_zero, Int.reduceAdd]; omega) | (simp (disch := omega) only [sA_same, sA_ne, ud_eq, ud_ne, Int.add_zero, Int.reduceAdd]; omega)) rfl ?_
        refine v_iaload (n := 220) (lz := (L : Int)) xB_232 dL_law_219 (sh_sc _ _ _) rfl (by first | omega | (simp only [sA_same, sA_s, ud_s, Int.reduceEq, if_true, if_false, ite_true, ite_false, ↓reduceIte, and_true, true_and, eq_self, Int.add_zero, Int.reduceAdd]; omega) | (simp (disch := omega) only [sA_same, sA_ne, ud_eq, ud_ne, Int.add_zero, Int.reduceAdd]; omega)) rfl ?_
        refine v_aload_n (n := 221) xB_232 dL_law_220 rfl rfl ?_
        refine v_iload_n (n := 222) xB_232 dL_law_221 rfl rfl ?_
        refine v_iconst (n := 223) xB_232 dL_law_222 ⟨by decide, by decide⟩ rfl ?_
        refine v_iadd (n := 224) xB_232 dL_law_223 (by first | omega | (simp only [sA_same, sA_s, ud_s, Int.reduceEq, if_true, if_false, ite_true, ite_false, ↓reduceIte, and_true, true_and, eq_self, Int.add_zero, Int.reduceAdd]; omega) | (simp (disch := omega) only [sA_same, sA_ne, ud_eq, ud_ne, Int.add_zero, Int.reduceAdd]; omega)) rfl ?_
        refine v_iaload (n := 225) (lz := (L : Int)) xB_232 dL_law_224 (sh_sc _ _ _) rfl (by first | omega | (simp only [sA_same, sA_s, ud_s, Int.reduceEq, if_true, if_false, ite_true, ite_false, ↓reduceIte, and_true, true_and, eq_self, Int.add_zero, Int.reduceAdd]; omega) | (simp (disch := omega) only [sA_same, sA_ne, ud_eq, ud_ne, Int.add_zero, Int.reduceAdd]; omega)) rfl ?_
        (try rw [e3, hm3])
        refine v_call_v (n := 228) xB_232 dL_law_225 xO_232 iv_17_17 rfl (sh_81 _ _ _) rfl rfl rfl ?_
        refine hM _ _ (by omega)  (fun m2 hI2 => ?_)
        refine v_ic_eq_y (t := 1457) xB_232 dL_law_228 (by decide) rfl (by first | omega | (simp only [sA_same, sA_s, ud_s, Int.reduceEq, if_true, if_false, ite_true, ite_false, ↓reduceIte, and_true, true_and, eq_self, Int.add_zero, Int.reduceAdd]; omega) | (simp (disch := omega) only [sA_same, sA_ne, ud_eq, ud_ne, Int.add_zero, Int.reduceAdd]; omega)) ?_
        refine v_iinc3 (n := 1460) xB_232 dL_law_1457 rfl (by first | omega | (simp only [sA_same, sA_s, ud_s, Int.reduceEq, if_true, if_false, ite_true, ite_false, ↓reduceIte, and_true, true_and, eq_self, Int.add_zero, Int.reduceAdd]; omega) | (simp (disch := omega) only [sA_same, sA_ne, ud_eq, ud_ne, Int.add_zero, Int.reduceAdd]; omega)) rfl ?_
        refine v_goto (t := 18) xB_232 dL_law_1460 (by decide) rfl ?_
        first | exact ih _ _ _ hI2 (by omega) (by omega) (by omega) | exact ih _ _ _ hI (by omega) (by omega) (by omega)
      refine ts_c (lo' := 2) rfl (fun g3 => ?_) (fun g3 => ?_)
      · refine jm_go (t := 233) (by decide) rfl ?_
        refine v_aload_n (n := 234) xB_232 dL_law_233 rfl rfl ?_
        refine v_aload_n (n := 235) xB_232 dL_law_234 rfl rfl ?_
        refine v_iload_n (n := 236) xB_232 dL_law_235 rfl rfl ?_
        refine v_iconst (n := 237) xB_232 dL_law_236 ⟨by decide, by decide⟩ rfl ?_
        refine v_iadd (n := 238) xB_232 dL_law_237 (by first | omega | (simp only [sA_same, sA_s, ud_s, Int.reduceEq, if_true, if_false, ite_true, ite_false, ↓reduceIte, and_true, true_and, eq_self, Int.add_zero, Int.reduceAdd]; omega) | (simp (disch := omega) only [sA_same, sA_ne, ud_eq, ud_ne, Int.add_zero, Int.reduceAdd]; omega)) rfl ?_
        refine v_iaload (n := 239) (lz := (L : Int)) xB_232 dL_law_238 (sh_sc _ _ _) rfl (by first | omega | (simp only [sA_same, sA_s, ud_s, Int.reduceEq, if_true, if_false, ite_true, ite_false, ↓reduceIte, and_true, true_and, eq_self, Int.add_zero, Int.reduceAdd]; omega) | (simp (disch := omega) only [sA_same, sA_ne, ud_eq, ud_ne, Int.add_zero, Int.reduceAdd]; omega)) rfl ?_
        refine v_aload_n (n := 240) xB_232 dL_law_239 rfl rfl ?_
        refine v_iload_n (n := 241) xB_232 dL_law_240 rfl rfl ?_
        refine v_iconst (n := 242) xB_232 dL_law_241 ⟨by decide, by decide⟩ rfl ?_
        refine v_iadd (n := 243) xB_232 dL_law_242 (by first | omega | (simp only [sA_same, sA_s, ud_s, Int.reduceEq, if_true, if_false, ite_true, ite_false, ↓reduceIte, and_true, true_and, eq_self, Int.add_zero, Int.reduceAdd]; omega) | (simp (disch := omega) only [sA_same, sA_ne, ud_eq, ud_ne, Int.add_zero, Int.reduceAdd]; omega)) rfl ?_
        refine v_iaload (n := 244) (lz := (L : Int)) xB_232 dL_law_243 (sh_sc _ _ _) rfl (by first | omega | (simp only [sA_same, sA_s, ud_s, Int.reduceEq, if_true, if_false, ite_true, ite_false, ↓reduceIte, and_true, true_and, eq_self, Int.add_zero, Int.reduceAdd]; omega) | (simp (disch := omega) only [sA_same, sA_ne, ud_eq, ud_ne, Int.add_zero, Int.reduceAdd]; omega)) rfl ?_
        (try rw [hm3])
        refine v_call_v (n := 247) xB_232 dL_law_244 xO_232 iv_17_18 rfl (sh_0 _ _ _) rfl rfl rfl ?_
        refine rd_I (p_of m0 L _ _) (by omega) hI (fun v m1 dy1 hng hM => ?_)
        have e3 : m1 (-3) = m (-3) := hng (-3) (by omega)
        refine v_aload_n (n := 248) xB_232 dL_law_247 rfl rfl ?_
        refine v_aload_n (n := 249) xB_232 dL_law_248 rfl rfl ?_
        refine v_iload_n (n := 250) xB_232 dL_law_249 rfl rfl ?_
        refine v_iconst (n := 251) xB_232 dL_law_250 ⟨by decide, by decide⟩ rfl ?_
        refine v_iadd (n := 252) xB_232 dL_law_251 (by first | omega | (simp only [sA_same, sA_s, ud_s, Int.reduceEq, if_true, if_false, ite_true, ite_false, ↓reduceIte, and_true, true_and, eq_self, Int.add_zero, Int.reduceAdd]; omega) | (simp (disch := omega) only [sA_same, sA_ne, ud_eq, ud_ne, Int.add_zero, Int.reduceAdd]; omega)) rfl ?_
        refine v_iaload (n := 253) (lz := (L : Int)) xB_232 dL_law_252 (sh_sc _ _ _) rfl (by first | omega | (simp only [sA_same, sA_s, ud_s, Int.reduceEq, if_true, if_false, ite_true, ite_false, ↓reduceIte, and_true, true_and, eq_self, Int.add_zero, Int.reduceAdd]; omega) | (simp (disch := omega) only [sA_same, sA_ne, ud_eq, ud_ne, Int.add_zero, Int.reduceAdd]; omega)) rfl ?_
        refine v_aload_n (n := 254) xB_232 dL_law_253 rfl rfl ?_
        refine v_iload_n (n := 255) xB_232 dL_law_254 rfl rfl ?_
        refine v_iconst (n := 256) xB_232 dL_law_255 ⟨by decide, by decide⟩ rfl ?_
        refine v_iadd (n := 257) xB_232 dL_law_256 (by first | omega | (simp only [sA_same, sA_s, ud_s, Int.reduceEq, if_true, if_false, ite_true, ite_false, ↓reduceIte, and_true, true_and, eq_self, Int.add_zero, Int.reduceAdd]; omega) | (simp (disch := omega) only [sA_same, sA_ne, ud_eq, ud_ne, Int.add_zero, Int.reduceAdd]; omega)) rfl ?_
        refine v_iaload (n := 258) (lz := (L : Int)) xB_232 dL_law_257 (sh_sc _ _ _) rfl (by first | omega | (simp only [sA_same, sA_s, ud_s, Int.reduceEq, if_true, if_false, ite_true, ite_false, ↓reduceIte, and_true, true_and, eq_self, Int.add_zero, Int.reduceAdd]; omega) | (simp (disch := omega) only [sA_same, sA_ne, ud_eq, ud_ne, Int.add_zero, Int.reduceAdd]; omega)) rfl ?_
        (try rw [e3, hm3])
        refine v_call_v (n := 261) xB_232 dL_law_258 xO_232 iv_17_21 rfl (sh_81 _ _ _) rfl rfl rfl ?_
        refine hM _ _ (by omega)  (fun m2 hI2 => ?_)
        refine v_ic_eq_y (t := 1457) xB_232 dL_law_261 (by decide) rfl (by first | omega | (simp only [sA_same, sA_s, ud_s, Int.reduceEq, if_true, if_false, ite_true, ite_false, ↓reduceIte, and_true, true_and, eq_self, Int.add_zero, Int.reduceAdd]; omega) | (simp (disch := omega) only [sA_same, sA_ne, ud_eq, ud_ne, Int.add_zero, Int.reduceAdd]; omega)) ?_
        refine v_iinc3 (n := 1460) xB_232 dL_law_1457 rfl (by first | omega | (simp only [sA_same, sA_s, ud_s, Int.reduceEq, if_true, if_false, ite_true, ite_false, ↓reduceIte, and_true, true_and, eq_self, Int.add_zero, Int.reduceAdd]; omega) | (simp (disch := omega) only [sA_same, sA_ne, ud_eq, ud_ne, Int.add_zero, Int.reduceAdd]; omega)) rfl ?_
        refine v_goto (t := 18) xB_232 dL_law_1460 (by decide) rfl ?_
        first | exact ih _ _ _ hI2 (by omega) (by omega) (by omega) | exact ih _ _ _ hI (by omega) (by omega) (by omega)
      refine ts_c (lo' := 3) rfl (fun g4 => ?_) (fun g4 => ?_)
      · refine jm_go (t := 266) (by decide) rfl ?_
        refine v_aload_n (n := 267) xB_232 dL_law_266 rfl rfl ?_
        refine v_aload_n (n := 268) xB_232 dL_law_267 rfl rfl ?_
        refine v_iload_n (n := 269) xB_232 dL_law_268 rfl rfl ?_
        refine v_iconst (n := 270) xB_232 dL_law_269 ⟨by decide, by decide⟩ rfl ?_
        refine v_iadd (n := 271) xB_232 dL_law_270 (by first | omega | (simp only [sA_same, sA_s, ud_s, Int.reduceEq, if_true, if_false, ite_true, ite_false, ↓reduceIte, and_true, true_and, eq_self, Int.add_zero, Int.reduceAdd]; omega) | (simp (disch := omega) only [sA_same, sA_ne, ud_eq, ud_ne, Int.add_zero, Int.reduceAdd]; omega)) rfl ?_
        refine v_iaload (n := 272) (lz := (L : Int)) xB_232 dL_law_271 (sh_sc _ _ _) rfl (by first | omega | (simp only [sA_same, sA_s, ud_s, Int.reduceEq, if_true, if_false, ite_true, ite_false, ↓reduceIte, and_true, true_and, eq_self, Int.add_zero, Int.reduceAdd]; omega) | (simp (disch := omega) only [sA_same, sA_ne, ud_eq, ud_ne, Int.add_zero, Int.reduceAdd]; omega)) rfl ?_
        refine v_aload_n (n := 273) xB_232 dL_law_272 rfl rfl ?_
        refine v_iload_n (n := 274) xB_232 dL_law_273 rfl rfl ?_
        refine v_iconst (n := 275) xB_232 dL_law_274 ⟨by decide, by decide⟩ rfl ?_
        refine v_iadd (n := 276) xB_232 dL_law_275 (by first | omega | (simp only [sA_same, sA_s, ud_s, Int.reduceEq, if_true, if_false, ite_true, ite_false, ↓reduceIte, and_true, true_and, eq_self, Int.add_zero, Int.reduceAdd]; omega) | (simp (disch := omega) only [sA_same, sA_ne, ud_eq, ud_ne, Int.add_zero, Int.reduceAdd]; omega)) rfl ?_
        refine v_iaload (n := 277) (lz := (L : Int)) xB_232 dL_law_276 (sh_sc _ _ _) rfl (by first | omega | (simp only [sA_same, sA_s, ud_s, Int.reduceEq, if_true, if_false, ite_true, ite_false, ↓reduceIte, and_true, true_and, eq_self, Int.add_zero, Int.reduceAdd]; omega) | (simp (disch := omega) only [sA_same, sA_ne, ud_eq, ud_ne, Int.add_zero, Int.reduceAdd]; omega)) rfl ?_
        refine v_aload_n (n := 278) xB_232 dL_law_277 rfl rfl ?_
        refine v_iload_n (n := 279) xB_232 dL_law_278 rfl rfl ?_
        refine v_iconst (n := 280) xB_232 dL_law_279 ⟨by decide, by decide⟩ rfl ?_
        refine v_iadd (n := 281) xB_232 dL_law_280 (by first | omega | (simp only [sA_same, sA_s, ud_s, Int.reduceEq, if_true, if_false, ite_true, ite_false, ↓reduceIte, and_true, true_and, eq_self, Int.add_zero, Int.reduceAdd]; omega) | (simp (disch := omega) only [sA_same, sA_ne, ud_eq, ud_ne, Int.add_zero, Int.reduceAdd]; omega)) rfl ?_
        refine v_iaload (n := 282) (lz := (L : Int)) xB_232 dL_law_281 (sh_sc _ _ _) rfl (by first | omega | (simp only [sA_same, sA_s, ud_s, Int.reduceEq, if_true, if_false, ite_true, ite_false, ↓reduceIte, and_true, true_and, eq_self, Int.add_zero, Int.reduceAdd]; omega) | (simp (disch := omega) only [sA_same, sA_ne, ud_eq, ud_ne, Int.add_zero, Int.reduceAdd]; omega)) rfl ?_
        (try rw [hm3])
        refine v_call_v (n := 285) xB_232 dL_law_282 xO_232 iv_17_22 rfl (sh_0 _ _ _) rfl rfl rfl ?_
        refine rd_I (p_row m0 L _ _ _) (by omega) hI (fun v m1 dy1 hng hM => ?_)
        have e3 : m1 (-3) = m (-3) := hng (-3) (by omega)
        refine v_aload_n (n := 286) xB_232 dL_law_285 rfl rfl ?_
        refine v_aload_n (n := 287) xB_232 dL_law_286 rfl rfl ?_
        refine v_iload_n (n := 288) xB_232 dL_law_287 rfl rfl ?_
        refine v_iconst (n := 289) xB_232 dL_law_288 ⟨by decide, by decide⟩ rfl ?_
        refine v_iadd (n := 290) xB_232 dL_law_289 (by first | omega | (simp only [sA_same, sA_s, ud_s, Int.reduceEq, if_true, if_false, ite_true, ite_false, ↓reduceIte, and_true, true_and, eq_self, Int.add_zero, Int.reduceAdd]; omega) | (simp (disch := omega) only [sA_same, sA_ne, ud_eq, ud_ne, Int.add_zero, Int.reduceAdd]; omega)) rfl ?_
        refine v_iaload (n := 291) (lz := (L : Int)) xB_232 dL_law_290 (sh_sc _ _ _) rfl (by first | omega | (simp only [sA_same, sA_s, ud_s, Int.reduceEq, if_true, if_false, ite_true, ite_false, ↓reduceIte, and_true, true_and, eq_self, Int.add_zero, Int.reduceAdd]; omega) | (simp (disch := omega) only [sA_same, sA_ne, ud_eq, ud_ne, Int.add_zero, Int.reduceAdd]; omega)) rfl ?_
        refine v_aload_n (n := 292) xB_232 dL_law_291 rfl rfl ?_
        refine v_iload_n (n := 293) xB_232 dL_law_292 rfl rfl ?_
        refine v_iconst (n := 294) xB_232 dL_law_293 ⟨by decide, by decide⟩ rfl ?_
        refine v_iadd (n := 295) xB_232 dL_law_294 (by first | omega | (simp only [sA_same, sA_s, ud_s, Int.reduceEq, if_true, if_false, ite_true, ite_false, ↓reduceIte, and_true, true_and, eq_self, Int.add_zero, Int.reduceAdd]; omega) | (simp (disch := omega) only [sA_same, sA_ne, ud_eq, ud_ne, Int.add_zero, Int.reduceAdd]; omega)) rfl ?_
        refine v_iaload (n := 296) (lz := (L : Int)) xB_232 dL_law_295 (sh_sc _ _ _) rfl (by first | omega | (simp only [sA_same, sA_s, ud_s, Int.reduceEq, if_true, if_false, ite_true, ite_false, ↓reduceIte, and_true, true_and, eq_self, Int.add_zero, Int.reduceAdd]; omega) | (simp (disch := omega) only [sA_same, sA_ne, ud_eq, ud_ne, Int.add_zero, Int.reduceAdd]; omega)) rfl ?_
        refine v_aload_n (n := 297) xB_232 dL_law_296 rfl rfl ?_
        refine v_iload_n (n := 298) xB_232 dL_law_297 rfl rfl ?_
        refine v_iconst (n := 299) xB_232 dL_law_298 ⟨by decide, by decide⟩ rfl ?_
        refine v_iadd (n := 300) xB_232 dL_law_299 (by first | omega | (simp only [sA_same, sA_s, ud_s, Int.reduceEq, if_true, if_false, ite_true, ite_false, ↓reduceIte, and_true, true_and, eq_self, Int.add_zero, Int.reduceAdd]; omega) | (simp (disch := omega) only [sA_same, sA_ne, ud_eq, ud_ne, Int.add_zero, Int.reduceAdd]; omega)) rfl ?_
        refine v_iaload (n := 301) (lz := (L : Int)) xB_232 dL_law_300 (sh_sc _ _ _) rfl (by first | omega | (simp only [sA_same, sA_s, ud_s, Int.reduceEq, if_true, if_false, ite_true, ite_false, ↓reduceIte, and_true, true_and, eq_self, Int.add_zero, Int.reduceAdd]; omega) | (simp (disch := omega) only [sA_same, sA_ne, ud_eq, ud_ne, Int.add_zero, Int.reduceAdd]; omega)) rfl ?_
        (try rw [e3, hm3])
        refine v_call_v (n := 304) xB_232 dL_law_301 xO_232 iv_17_26 rfl (sh_81 _ _ _) rfl rfl rfl ?_
        refine hM _ _ (by omega)  (fun m2 hI2 => ?_)
        refine v_ic_eq_y (t := 1457) xB_232 dL_law_304 (by decide) rfl (by first | omega | (simp only [sA_same, sA_s, ud_s, Int.reduceEq, if_true, if_false, ite_true, ite_false, ↓reduceIte, and_true, true_and, eq_self, Int.add_zero, Int.reduceAdd]; omega) | (simp (disch := omega) only [sA_same, sA_ne, ud_eq, ud_ne, Int.add_zero, Int.reduceAdd]; omega)) ?_
        refine v_iinc3 (n := 1460) xB_232 dL_law_1457 rfl (by first | omega | (simp only [sA_same, sA_s, ud_s, Int.reduceEq, if_true, if_false, ite_true, ite_false, ↓reduceIte, and_true, true_and, eq_self, Int.add_zero, Int.reduceAdd]; omega) | (simp (disch := omega) only [sA_same, sA_ne, ud_eq, ud_ne, Int.add_zero, Int.reduceAdd]; omega)) rfl ?_
        refine v_goto (t := 18) xB_232 dL_law_1460 (by decide) rfl ?_
        first | exact ih _ _ _ hI2 (by omega) (by omega) (by omega) | exact ih _ _ _ hI (by omega) (by omega) (by omega)
      refine ts_c (lo' := 4) rfl (fun g5 => ?_) (fun g5 => ?_)
      · refine jm_go (t := 309) (by decide) rfl ?_
        refine v_aload_n (n := 310) xB_232 dL_law_309 rfl rfl ?_
        refine v_aload_n (n := 311) xB_232 dL_law_310 rfl rfl ?_
        refine v_iload_n (n := 312) xB_232 dL_law_311 rfl rfl ?_
        refine v_iconst (n := 313) xB_232 dL_law_312 ⟨by decide, by decide⟩ rfl ?_
        refine v_iadd (n := 314) xB_232 dL_law_313 (by first | omega | (simp only [sA_same, sA_s, ud_s, Int.reduceEq, if_true, if_false, ite_true, ite_false, ↓reduceIte, and_true, true_and, eq_self, Int.add_zero, Int.reduceAdd]; omega) | (simp (disch := omega) only [sA_same, sA_ne, ud_eq, ud_ne, Int.add_zero, Int.reduceAdd]; omega)) rfl ?_
        refine v_iaload (n := 315) (lz := (L : Int)) xB_232 dL_law_314 (sh_sc _ _ _) rfl (by first | omega | (simp only [sA_same, sA_s, ud_s, Int.reduceEq, if_true, if_false, ite_true, ite_false, ↓reduceIte, and_true, true_and, eq_self, Int.add_zero, Int.reduceAdd]; omega) | (simp (disch := omega) only [sA_same, sA_ne, ud_eq, ud_ne, Int.add_zero, Int.reduceAdd]; omega)) rfl ?_
        (try rw [hm3])
        refine v_call_v (n := 318) xB_232 dL_law_315 xO_232 iv_17_27 rfl (sh_0 _ _ _) rfl rfl rfl ?_
        refine rd_I (p_feed m0 L _) (by omega) hI (fun v m1 dy1 hng hM => ?_)
        have e3 : m1 (-3) = m (-3) := hng (-3) (by omega)
        refine v_aload_n (n := 319) xB_232 dL_law_318 rfl rfl ?_
        refine v_aload_n (n := 320) xB_232 dL_law_319 rfl rfl ?_
        refine v_iload_n (n := 321) xB_232 dL_law_320 rfl rfl ?_
        refine v_iconst (n := 322) xB_232 dL_law_321 ⟨by decide, by decide⟩ rfl ?_
        refine v_iadd (n := 323) xB_232 dL_law_322 (by first | omega | (simp only [sA_same, sA_s, ud_s, Int.reduceEq, if_true, if_false, ite_true, ite_false, ↓reduceIte, and_true, true_and, eq_self, Int.add_zero, Int.reduceAdd]; omega) | (simp (disch := omega) only [sA_same, sA_ne, ud_eq, ud_ne, Int.add_zero, Int.reduceAdd]; omega)) rfl ?_
        refine v_iaload (n := 324) (lz := (L : Int)) xB_232 dL_law_323 (sh_sc _ _ _) rfl (by first | omega | (simp only [sA_same, sA_s, ud_s, Int.reduceEq, if_true, if_false, ite_true, ite_false, ↓reduceIte, and_true, true_and, eq_self, Int.add_zero, Int.reduceAdd]; omega) | (simp (disch := omega) only [sA_same, sA_ne, ud_eq, ud_ne, Int.add_zero, Int.reduceAdd]; omega)) rfl ?_
        (try rw [e3, hm3])
        refine v_call_v (n := 327) xB_232 dL_law_324 xO_232 iv_17_31 rfl (sh_81 _ _ _) rfl rfl rfl ?_
        refine hM _ _ (by omega)  (fun m2 hI2 => ?_)
        refine v_ic_eq_y (t := 1457) xB_232 dL_law_327 (by decide) rfl (by first | omega | (simp only [sA_same, sA_s, ud_s, Int.reduceEq, if_true, if_false, ite_true, ite_false, ↓reduceIte, and_true, true_and, eq_self, Int.add_zero, Int.reduceAdd]; omega) | (simp (disch := omega) only [sA_same, sA_ne, ud_eq, ud_ne, Int.add_zero, Int.reduceAdd]; omega)) ?_
        refine v_iinc3 (n := 1460) xB_232 dL_law_1457 rfl (by first | omega | (simp only [sA_same, sA_s, ud_s, Int.reduceEq, if_true, if_false, ite_true, ite_false, ↓reduceIte, and_true, true_and, eq_self, Int.add_zero, Int.reduceAdd]; omega) | (simp (disch := omega) only [sA_same, sA_ne, ud_eq, ud_ne, Int.add_zero, Int.reduceAdd]; omega)) rfl ?_
        refine v_goto (t := 18) xB_232 dL_law_1460 (by decide) rfl ?_
        first | exact ih _ _ _ hI2 (by omega) (by omega) (by omega) | exact ih _ _ _ hI (by omega) (by omega) (by omega)
      refine ts_c (lo' := 5) rfl (fun g6 => ?_) (fun g6 => ?_)
      · refine jm_go (t := 332) (by decide) rfl ?_
        refine v_aload_n (n := 333) xB_232 dL_law_332 rfl rfl ?_
        (try rw [hm3])
        refine v_call_v (n := 336) xB_232 dL_law_333 xO_232 iv_17_32 rfl (sh_0 _ _ _) rfl rfl rfl ?_
        refine rd_I (p_job m0 L hL0 hK0) (by omega) hI (fun v m1 dy1 hng hM => ?_)
        have e3 : m1 (-3) = m (-3) := hng (-3) (by omega)
        refine v_aload_n (n := 337) xB_232 dL_law_336 rfl rfl ?_
        (try rw [e3, hm3])
        refine v_call_v (n := 340) xB_232 dL_law_337 xO_232 iv_17_36 rfl (sh_81 _ _ _) rfl rfl rfl ?_
        refine hM _ _ (by omega)  (fun m2 hI2 => ?_)
        refine v_ic_eq_y (t := 1457) xB_232 dL_law_340 (by decide) rfl (by first | omega | (simp only [sA_same, sA_s, ud_s, Int.reduceEq, if_true, if_false, ite_true, ite_false, ↓reduceIte, and_true, true_and, eq_self, Int.add_zero, Int.reduceAdd]; omega) | (simp (disch := omega) only [sA_same, sA_ne, ud_eq, ud_ne, Int.add_zero, Int.reduceAdd]; omega)) ?_
        refine v_iinc3 (n := 1460) xB_232 dL_law_1457 rfl (by first | omega | (simp only [sA_same, sA_s, ud_s, Int.reduceEq, if_true, if_false, ite_true, ite_false, ↓reduceIte, and_true, true_and, eq_self, Int.add_zero, Int.reduceAdd]; omega) | (simp (disch := omega) only [sA_same, sA_ne, ud_eq, ud_ne, Int.add_zero, Int.reduceAdd]; omega)) rfl ?_
        refine v_goto (t := 18) xB_232 dL_law_1460 (by decide) rfl ?_
        first | exact ih _ _ _ hI2 (by omega) (by omega) (by omega) | exact ih _ _ _ hI (by omega) (by omega) (by omega)
      refine ts_c (lo' := 6) rfl (fun g7 => ?_) (fun g7 => ?_)
      · refine jm_go (t := 345) (by decide) rfl ?_
        refine v_aload_n (n := 346) xB_232 dL_law_345 rfl rfl ?_
        refine v_aload_n (n := 347) xB_232 dL_law_346 rfl rfl ?_
        refine v_iload_n (n := 348) xB_232 dL_law_347 rfl rfl ?_
        refine v_iconst (n := 349) xB_232 dL_law_348 ⟨by decide, by decide⟩ rfl ?_
        refine v_iadd (n := 350) xB_232 dL_law_349 (by first | omega | (simp only [sA_same, sA_s, ud_s, Int.reduceEq, if_true, if_false, ite_true, ite_false, ↓reduceIte, and_true, true_and, eq_self, Int.add_zero, Int.reduceAdd]; omega) | (simp (disch := omega) only [sA_same, sA_ne, ud_eq, ud_ne, Int.add_zero, Int.reduceAdd]; omega)) rfl ?_
        refine v_iaload (n := 351) (lz := (L : Int)) xB_232 dL_law_350 (sh_sc _ _ _) rfl (by first | omega | (simp only [sA_same, sA_s, ud_s, Int.reduceEq, if_true, if_false, ite_true, ite_false, ↓reduceIte, and_true, true_and, eq_self, Int.add_zero, Int.reduceAdd]; omega) | (simp (disch := omega) only [sA_same, sA_ne, ud_eq, ud_ne, Int.add_zero, Int.reduceAdd]; omega)) rfl ?_
        (try rw [hm3])
        refine v_call_v (n := 354) xB_232 dL_law_351 xO_232 iv_17_37 rfl (sh_0 _ _ _) rfl rfl rfl ?_
        refine rd_I (p_load m0 L _) (by omega) hI (fun v m1 dy1 hng hM => ?_)
        have e3 : m1 (-3) = m (-3) := hng (-3) (by omega)
        refine v_aload_n (n := 355) xB_232 dL_law_354 rfl rfl ?_
        refine v_aload_n (n := 356) xB_232 dL_law_355 rfl rfl ?_
        refine v_iload_n (n := 357) xB_232 dL_law_356 rfl rfl ?_
        refine v_iconst (n := 358) xB_232 dL_law_357 ⟨by decide, by decide⟩ rfl ?_
        refine v_iadd (n := 359) xB_232 dL_law_358 (by first | omega | (simp only [sA_same, sA_s, ud_s, Int.reduceEq, if_true, if_false, ite_true, ite_false, ↓reduceIte, and_true, true_and, eq_self, Int.add_zero, Int.reduceAdd]; omega) | (simp (disch := omega) only [sA_same, sA_ne, ud_eq, ud_ne, Int.add_zero, Int.reduceAdd]; omega)) rfl ?_
        refine v_iaload (n := 360) (lz := (L : Int)) xB_232 dL_law_359 (sh_sc _ _ _) rfl (by first | omega | (simp only [sA_same, sA_s, ud_s, Int.reduceEq, if_true, if_false, ite_true, ite_false, ↓reduceIte, and_true, true_and, eq_self, Int.add_zero, Int.reduceAdd]; omega) | (simp (disch := omega) only [sA_same, sA_ne, ud_eq, ud_ne, Int.add_zero, Int.reduceAdd]; omega)) rfl ?_
        (try rw [e3, hm3])
        refine v_call_v (n := 363) xB_232 dL_law_360 xO_232 iv_17_40 rfl (sh_81 _ _ _) rfl rfl rfl ?_
        refine hM _ _ (by omega)  (fun m2 hI2 => ?_)
        refine v_ic_eq_y (t := 1457) xB_232 dL_law_363 (by decide) rfl (by first | omega | (simp only [sA_same, sA_s, ud_s, Int.reduceEq, if_true, if_false, ite_true, ite_false, ↓reduceIte, and_true, true_and, eq_self, Int.add_zero, Int.reduceAdd]; omega) | (simp (disch := omega) only [sA_same, sA_ne, ud_eq, ud_ne, Int.add_zero, Int.reduceAdd]; omega)) ?_
        refine v_iinc3 (n := 1460) xB_232 dL_law_1457 rfl (by first | omega | (simp only [sA_same, sA_s, ud_s, Int.reduceEq, if_true, if_false, ite_true, ite_false, ↓reduceIte, and_true, true_and, eq_self, Int.add_zero, Int.reduceAdd]; omega) | (simp (disch := omega) only [sA_same, sA_ne, ud_eq, ud_ne, Int.add_zero, Int.reduceAdd]; omega)) rfl ?_
        refine v_goto (t := 18) xB_232 dL_law_1460 (by decide) rfl ?_
        first | exact ih _ _ _ hI2 (by omega) (by omega) (by omega) | exact ih _ _ _ hI (by omega) (by omega) (by omega)
      refine ts_c (lo' := 7) rfl (fun g8 => ?_) (fun g8 => ?_)
      · refine jm_go (t := 368) (by decide) rfl ?_
        refine v_aload_n (n := 369) xB_232 dL_law_368 rfl rfl ?_
        (try rw [hm3])
        refine v_call_v (n := 372) xB_232 dL_law_369 xO_232 iv_17_41 rfl (sh_0 _ _ _) rfl rfl rfl ?_
        refine rd_I (p_empty m0 L) (by omega) hI (fun v m1 dy1 hng hM => ?_)
        have e3 : m1 (-3) = m (-3) := hng (-3) (by omega)
        refine v_aload_n (n := 373) xB_232 dL_law_372 rfl rfl ?_
        (try rw [e3, hm3])
        refine v_call_v (n := 376) xB_232 dL_law_373 xO_232 iv_17_44 rfl (sh_81 _ _ _) rfl rfl rfl ?_
        refine hM _ _ (by omega)  (fun m2 hI2 => ?_)
        refine v_ic_eq_y (t := 1457) xB_232 dL_law_376 (by decide) rfl (by first | omega | (simp only [sA_same, sA_s, ud_s, Int.reduceEq, if_true, if_false, ite_true, ite_false, ↓reduceIte, and_true, true_and, eq_self, Int.add_zero, Int.reduceAdd]; omega) | (simp (disch := omega) only [sA_same, sA_ne, ud_eq, ud_ne, Int.add_zero, Int.reduceAdd]; omega)) ?_
        refine v_iinc3 (n := 1460) xB_232 dL_law_1457 rfl (by first | omega | (simp only [sA_same, sA_s, ud_s, Int.reduceEq, if_true, if_false, ite_true, ite_false, ↓reduceIte, and_true, true_and, eq_self, Int.add_zero, Int.reduceAdd]; omega) | (simp (disch := omega) only [sA_same, sA_ne, ud_eq, ud_ne, Int.add_zero, Int.reduceAdd]; omega)) rfl ?_
        refine v_goto (t := 18) xB_232 dL_law_1460 (by decide) rfl ?_
        first | exact ih _ _ _ hI2 (by omega) (by omega) (by omega) | exact ih _ _ _ hI (by omega) (by omega) (by omega)
      refine ts_c (lo' := 8) rfl (fun g9 => ?_) (fun g9 => ?_)
      · refine jm_go (t := 381) (by decide) rfl ?_
        refine v_aload_n (n := 382) xB_232 dL_law_381 rfl rfl ?_
        refine v_aload_n (n := 383) xB_232 dL_law_382 rfl rfl ?_
        refine v_iload_n (n := 384) xB_232 dL_law_383 rfl rfl ?_
        refine v_iconst (n := 385) xB_232 dL_law_384 ⟨by decide, by decide⟩ rfl ?_
        refine v_iadd (n := 386) xB_232 dL_law_385 (by first | omega | (simp only [sA_same, sA_s, ud_s, Int.reduceEq, if_true, if_false, ite_true, ite_false, ↓reduceIte, and_true, true_and, eq_self, Int.add_zero, Int.reduceAdd]; omega) | (simp (disch := omega) only [sA_same, sA_ne, ud_eq, ud_ne, Int.add_zero, Int.reduceAdd]; omega)) rfl ?_
        refine v_iaload (n := 387) (lz := (L : Int)) xB_232 dL_law_386 (sh_sc _ _ _) rfl (by first | omega | (simp only [sA_same, sA_s, ud_s, Int.reduceEq, if_true, if_false, ite_true, ite_false, ↓reduceIte, and_true, true_and, eq_self, Int.add_zero, Int.reduceAdd]; omega) | (simp (disch := omega) only [sA_same, sA_ne, ud_eq, ud_ne, Int.add_zero, Int.reduceAdd]; omega)) rfl ?_
        (try rw [hm3])
        refine v_call_v (n := 390) xB_232 dL_law_387 xO_232 iv_17_45 rfl (sh_0 _ _ _) rfl rfl rfl ?_
        refine rd_I (p_turn m0 L _) (by omega) hI (fun v m1 dy1 hng hM => ?_)
        have e3 : m1 (-3) = m (-3) := hng (-3) (by omega)
        refine v_aload_n (n := 391) xB_232 dL_law_390 rfl rfl ?_
        refine v_aload_n (n := 392) xB_232 dL_law_391 rfl rfl ?_
        refine v_iload_n (n := 393) xB_232 dL_law_392 rfl rfl ?_
        refine v_iconst (n := 394) xB_232 dL_law_393 ⟨by decide, by decide⟩ rfl ?_
        refine v_iadd (n := 395) xB_232 dL_law_394 (by first | omega | (simp only [sA_same, sA_s, ud_s, Int.reduceEq, if_true, if_false, ite_true, ite_false, ↓reduceIte, and_true, true_and, eq_self, Int.add_zero, Int.reduceAdd]; omega) | (simp (disch := omega) only [sA_same, sA_ne, ud_eq, ud_ne, Int.add_zero, Int.reduceAdd]; omega)) rfl ?_
        refine v_iaload (n := 396) (lz := (L : Int)) xB_232 dL_law_395 (sh_sc _ _ _) rfl (by first | omega | (simp only [sA_same, sA_s, ud_s, Int.reduceEq, if_true, if_false, ite_true, ite_false, ↓reduceIte, and_true, true_and, eq_self, Int.add_zero, Int.reduceAdd]; omega) | (simp (disch := omega) only [sA_same, sA_ne, ud_eq, ud_ne, Int.add_zero, Int.reduceAdd]; omega)) rfl ?_
        (try rw [e3, hm3])
        refine v_call_v (n := 399) xB_232 dL_law_396 xO_232 iv_17_48 rfl (sh_81 _ _ _) rfl rfl rfl ?_
        refine hM _ _ (by omega)  (fun m2 hI2 => ?_)
        refine v_ic_eq_y (t := 1457) xB_232 dL_law_399 (by decide) rfl (by first | omega | (simp only [sA_same, sA_s, ud_s, Int.reduceEq, if_true, if_false, ite_true, ite_false, ↓reduceIte, and_true, true_and, eq_self, Int.add_zero, Int.reduceAdd]; omega) | (simp (disch := omega) only [sA_same, sA_ne, ud_eq, ud_ne, Int.add_zero, Int.reduceAdd]; omega)) ?_
        refine v_iinc3 (n := 1460) xB_232 dL_law_1457 rfl (by first | omega | (simp only [sA_same, sA_s, ud_s, Int.reduceEq, if_true, if_false, ite_true, ite_false, ↓reduceIte, and_true, true_and, eq_self, Int.add_zero, Int.reduceAdd]; omega) | (simp (disch := omega) only [sA_same, sA_ne, ud_eq, ud_ne, Int.add_zero, Int.reduceAdd]; omega)) rfl ?_
        refine v_goto (t := 18) xB_232 dL_law_1460 (by decide) rfl ?_
        first | exact ih _ _ _ hI2 (by omega) (by omega) (by omega) | exact ih _ _ _ hI (by omega) (by omega) (by omega)
      refine ts_c (lo' := 9) rfl (fun g10 => ?_) (fun g10 => ?_)
      · refine jm_go (t := 404) (by decide) rfl ?_
        refine v_aload_n (n := 405) xB_232 dL_law_404 rfl rfl ?_
        refine v_aload_n (n := 406) xB_232 dL_law_405 rfl rfl ?_
        refine v_iload_n (n := 407) xB_232 dL_law_406 rfl rfl ?_
        refine v_iconst (n := 408) xB_232 dL_law_407 ⟨by decide, by decide⟩ rfl ?_
        refine v_iadd (n := 409) xB_232 dL_law_408 (by first | omega | (simp only [sA_same, sA_s, ud_s, Int.reduceEq, if_true, if_false, ite_true, ite_false, ↓reduceIte, and_true, true_and, eq_self, Int.add_zero, Int.reduceAdd]; omega) | (simp (disch := omega) only [sA_same, sA_ne, ud_eq, ud_ne, Int.add_zero, Int.reduceAdd]; omega)) rfl ?_
        refine v_iaload (n := 410) (lz := (L : Int)) xB_232 dL_law_409 (sh_sc _ _ _) rfl (by first | omega | (simp only [sA_same, sA_s, ud_s, Int.reduceEq, if_true, if_false, ite_true, ite_false, ↓reduceIte, and_true, true_and, eq_self, Int.add_zero, Int.reduceAdd]; omega) | (simp (disch := omega) only [sA_same, sA_ne, ud_eq, ud_ne, Int.add_zero, Int.reduceAdd]; omega)) rfl ?_
        refine v_aload_n (n := 411) xB_232 dL_law_410 rfl rfl ?_
        refine v_iload_n (n := 412) xB_232 dL_law_411 rfl rfl ?_
        refine v_iconst (n := 413) xB_232 dL_law_412 ⟨by decide, by decide⟩ rfl ?_
        refine v_iadd (n := 414) xB_232 dL_law_413 (by first | omega | (simp only [sA_same, sA_s, ud_s, Int.reduceEq, if_true, if_false, ite_true, ite_false, ↓reduceIte, and_true, true_and, eq_self, Int.add_zero, Int.reduceAdd]; omega) | (simp (disch := omega) only [sA_same, sA_ne, ud_eq, ud_ne, Int.add_zero, Int.reduceAdd]; omega)) rfl ?_
        refine v_iaload (n := 415) (lz := (L : Int)) xB_232 dL_law_414 (sh_sc _ _ _) rfl (by first | omega | (simp only [sA_same, sA_s, ud_s, Int.reduceEq, if_true, if_false, ite_true, ite_false, ↓reduceIte, and_true, true_and, eq_self, Int.add_zero, Int.reduceAdd]; omega) | (simp (disch := omega) only [sA_same, sA_ne, ud_eq, ud_ne, Int.add_zero, Int.reduceAdd]; omega)) rfl ?_
        (try rw [hm3])
        refine v_call_v (n := 418) xB_232 dL_law_415 xO_232 iv_17_49 rfl (sh_0 _ _ _) rfl rfl rfl ?_
        refine rd_I (p_sheet m0 L _ _) (by omega) hI (fun v m1 dy1 hng hM => ?_)
        have e3 : m1 (-3) = m (-3) := hng (-3) (by omega)
        refine v_aload_n (n := 419) xB_232 dL_law_418 rfl rfl ?_
        refine v_aload_n (n := 420) xB_232 dL_law_419 rfl rfl ?_
        refine v_iload_n (n := 421) xB_232 dL_law_420 rfl rfl ?_
        refine v_iconst (n := 422) xB_232 dL_law_421 ⟨by decide, by decide⟩ rfl ?_
        refine v_iadd (n := 423) xB_232 dL_law_422 (by first | omega | (simp only [sA_same, sA_s, ud_s, Int.reduceEq, if_true, if_false, ite_true, ite_false, ↓reduceIte, and_true, true_and, eq_self, Int.add_zero, Int.reduceAdd]; omega) | (simp (disch := omega) only [sA_same, sA_ne, ud_eq, ud_ne, Int.add_zero, Int.reduceAdd]; omega)) rfl ?_
        refine v_iaload (n := 424) (lz := (L : Int)) xB_232 dL_law_423 (sh_sc _ _ _) rfl (by first | omega | (simp only [sA_same, sA_s, ud_s, Int.reduceEq, if_true, if_false, ite_true, ite_false, ↓reduceIte, and_true, true_and, eq_self, Int.add_zero, Int.reduceAdd]; omega) | (simp (disch := omega) only [sA_same, sA_ne, ud_eq, ud_ne, Int.add_zero, Int.reduceAdd]; omega)) rfl ?_
        refine v_aload_n (n := 425) xB_232 dL_law_424 rfl rfl ?_
        refine v_iload_n (n := 426) xB_232 dL_law_425 rfl rfl ?_
        refine v_iconst (n := 427) xB_232 dL_law_426 ⟨by decide, by decide⟩ rfl ?_
        refine v_iadd (n := 428) xB_232 dL_law_427 (by first | omega | (simp only [sA_same, sA_s, ud_s, Int.reduceEq, if_true, if_false, ite_true, ite_false, ↓reduceIte, and_true, true_and, eq_self, Int.add_zero, Int.reduceAdd]; omega) | (simp (disch := omega) only [sA_same, sA_ne, ud_eq, ud_ne, Int.add_zero, Int.reduceAdd]; omega)) rfl ?_
        refine v_iaload (n := 429) (lz := (L : Int)) xB_232 dL_law_428 (sh_sc _ _ _) rfl (by first | omega | (simp only [sA_same, sA_s, ud_s, Int.reduceEq, if_true, if_false, ite_true, ite_false, ↓reduceIte, and_true, true_and, eq_self, Int.add_zero, Int.reduceAdd]; omega) | (simp (disch := omega) only [sA_same, sA_ne, ud_eq, ud_ne, Int.add_zero, Int.reduceAdd]; omega)) rfl ?_
        (try rw [e3, hm3])
        refine v_call_v (n := 432) xB_232 dL_law_429 xO_232 iv_17_52 rfl (sh_81 _ _ _) rfl rfl rfl ?_
        refine hM _ _ (by omega)  (fun m2 hI2 => ?_)
        refine v_ic_eq_y (t := 1457) xB_232 dL_law_432 (by decide) rfl (by first | omega | (simp only [sA_same, sA_s, ud_s, Int.reduceEq, if_true, if_false, ite_true, ite_false, ↓reduceIte, and_true, true_and, eq_self, Int.add_zero, Int.reduceAdd]; omega) | (simp (disch := omega) only [sA_same, sA_ne, ud_eq, ud_ne, Int.add_zero, Int.reduceAdd]; omega)) ?_
        refine v_iinc3 (n := 1460) xB_232 dL_law_1457 rfl (by first | omega | (simp only [sA_same, sA_s, ud_s, Int.reduceEq, if_true, if_false, ite_true, ite_false, ↓reduceIte, and_true, true_and, eq_self, Int.add_zero, Int.reduceAdd]; omega) | (simp (disch := omega) only [sA_same, sA_ne, ud_eq, ud_ne, Int.add_zero, Int.reduceAdd]; omega)) rfl ?_
        refine v_goto (t := 18) xB_232 dL_law_1460 (by decide) rfl ?_
        first | exact ih _ _ _ hI2 (by omega) (by omega) (by omega) | exact ih _ _ _ hI (by omega) (by omega) (by omega)
      refine ts_c (lo' := 10) rfl (fun g11 => ?_) (fun g11 => ?_)
      · refine jm_go (t := 437) (by decide) rfl ?_
        refine v_aload_n (n := 438) xB_232 dL_law_437 rfl rfl ?_
        refine v_aload_n (n := 439) xB_232 dL_law_438 rfl rfl ?_
        refine v_iload_n (n := 440) xB_232 dL_law_439 rfl rfl ?_
        refine v_iconst (n := 441) xB_232 dL_law_440 ⟨by decide, by decide⟩ rfl ?_
        refine v_iadd (n := 442) xB_232 dL_law_441 (by first | omega | (simp only [sA_same, sA_s, ud_s, Int.reduceEq, if_true, if_false, ite_true, ite_false, ↓reduceIte, and_true, true_and, eq_self, Int.add_zero, Int.reduceAdd]; omega) | (simp (disch := omega) only [sA_same, sA_ne, ud_eq, ud_ne, Int.add_zero, Int.reduceAdd]; omega)) rfl ?_
        refine v_iaload (n := 443) (lz := (L : Int)) xB_232 dL_law_442 (sh_sc _ _ _) rfl (by first | omega | (simp only [sA_same, sA_s, ud_s, Int.reduceEq, if_true, if_false, ite_true, ite_false, ↓reduceIte, and_true, true_and, eq_self, Int.add_zero, Int.reduceAdd]; omega) | (simp (disch := omega) only [sA_same, sA_ne, ud_eq, ud_ne, Int.add_zero, Int.reduceAdd]; omega)) rfl ?_
        (try rw [hm3])
        refine v_call_v (n := 446) xB_232 dL_law_443 xO_232 iv_17_53 rfl (sh_0 _ _ _) rfl rfl rfl ?_
        refine rd_I (p_told m0 L _) (by omega) hI (fun v m1 dy1 hng hM => ?_)
        have e3 : m1 (-3) = m (-3) := hng (-3) (by omega)
        refine v_aload_n (n := 447) xB_232 dL_law_446 rfl rfl ?_
        refine v_aload_n (n := 448) xB_232 dL_law_447 rfl rfl ?_
        refine v_iload_n (n := 449) xB_232 dL_law_448 rfl rfl ?_
        refine v_iconst (n := 450) xB_232 dL_law_449 ⟨by decide, by decide⟩ rfl ?_
        refine v_iadd (n := 451) xB_232 dL_law_450 (by first | omega | (simp only [sA_same, sA_s, ud_s, Int.reduceEq, if_true, if_false, ite_true, ite_false, ↓reduceIte, and_true, true_and, eq_self, Int.add_zero, Int.reduceAdd]; omega) | (simp (disch := omega) only [sA_same, sA_ne, ud_eq, ud_ne, Int.add_zero, Int.reduceAdd]; omega)) rfl ?_
        refine v_iaload (n := 452) (lz := (L : Int)) xB_232 dL_law_451 (sh_sc _ _ _) rfl (by first | omega | (simp only [sA_same, sA_s, ud_s, Int.reduceEq, if_true, if_false, ite_true, ite_false, ↓reduceIte, and_true, true_and, eq_self, Int.add_zero, Int.reduceAdd]; omega) | (simp (disch := omega) only [sA_same, sA_ne, ud_eq, ud_ne, Int.add_zero, Int.reduceAdd]; omega)) rfl ?_
        (try rw [e3, hm3])
        refine v_call_v (n := 455) xB_232 dL_law_452 xO_232 iv_17_56 rfl (sh_81 _ _ _) rfl rfl rfl ?_
        refine hM _ _ (by omega)  (fun m2 hI2 => ?_)
        refine v_ic_eq_y (t := 1457) xB_232 dL_law_455 (by decide) rfl (by first | omega | (simp only [sA_same, sA_s, ud_s, Int.reduceEq, if_true, if_false, ite_true, ite_false, ↓reduceIte, and_true, true_and, eq_self, Int.add_zero, Int.reduceAdd]; omega) | (simp (disch := omega) only [sA_same, sA_ne, ud_eq, ud_ne, Int.add_zero, Int.reduceAdd]; omega)) ?_
        refine v_iinc3 (n := 1460) xB_232 dL_law_1457 rfl (by first | omega | (simp only [sA_same, sA_s, ud_s, Int.reduceEq, if_true, if_false, ite_true, ite_false, ↓reduceIte, and_true, true_and, eq_self, Int.add_zero, Int.reduceAdd]; omega) | (simp (disch := omega) only [sA_same, sA_ne, ud_eq, ud_ne, Int.add_zero, Int.reduceAdd]; omega)) rfl ?_
        refine v_goto (t := 18) xB_232 dL_law_1460 (by decide) rfl ?_
        first | exact ih _ _ _ hI2 (by omega) (by omega) (by omega) | exact ih _ _ _ hI (by omega) (by omega) (by omega)
      refine ts_c (lo' := 11) rfl (fun g12 => ?_) (fun g12 => ?_)
      · refine jm_go (t := 460) (by decide) rfl ?_
        refine v_aload_n (n := 461) xB_232 dL_law_460 rfl rfl ?_
        refine v_aload_n (n := 462) xB_232 dL_law_461 rfl rfl ?_
        refine v_iload_n (n := 463) xB_232 dL_law_462 rfl rfl ?_
        refine v_iconst (n := 464) xB_232 dL_law_463 ⟨by decide, by decide⟩ rfl ?_
        refine v_iadd (n := 465) xB_232 dL_law_464 (by first | omega | (simp only [sA_same, sA_s, ud_s, Int.reduceEq, if_true, if_false, ite_true, ite_false, ↓reduceIte, and_true, true_and, eq_self, Int.add_zero, Int.reduceAdd]; omega) | (simp (disch := omega) only [sA_same, sA_ne, ud_eq, ud_ne, Int.add_zero, Int.reduceAdd]; omega)) rfl ?_
        refine v_iaload (n := 466) (lz := (L : Int)) xB_232 dL_law_465 (sh_sc _ _ _) rfl (by first | omega | (simp only [sA_same, sA_s, ud_s, Int.reduceEq, if_true, if_false, ite_true, ite_false, ↓reduceIte, and_true, true_and, eq_self, Int.add_zero, Int.reduceAdd]; omega) | (simp (disch := omega) only [sA_same, sA_ne, ud_eq, ud_ne, Int.add_zero, Int.reduceAdd]; omega)) rfl ?_
        refine v_aload_n (n := 467) xB_232 dL_law_466 rfl rfl ?_
        refine v_iload_n (n := 468) xB_232 dL_law_467 rfl rfl ?_
        refine v_iconst (n := 469) xB_232 dL_law_468 ⟨by decide, by decide⟩ rfl ?_
        refine v_iadd (n := 470) xB_232 dL_law_469 (by first | omega | (simp only [sA_same, sA_s, ud_s, Int.reduceEq, if_true, if_false, ite_true, ite_false, ↓reduceIte, and_true, true_and, eq_self, Int.add_zero, Int.reduceAdd]; omega) | (simp (disch := omega) only [sA_same, sA_ne, ud_eq, ud_ne, Int.add_zero, Int.reduceAdd]; omega)) rfl ?_
        refine v_iaload (n := 471) (lz := (L : Int)) xB_232 dL_law_470 (sh_sc _ _ _) rfl (by first | omega | (simp only [sA_same, sA_s, ud_s, Int.reduceEq, if_true, if_false, ite_true, ite_false, ↓reduceIte, and_true, true_and, eq_self, Int.add_zero, Int.reduceAdd]; omega) | (simp (disch := omega) only [sA_same, sA_ne, ud_eq, ud_ne, Int.add_zero, Int.reduceAdd]; omega)) rfl ?_
        (try rw [hm3])
        refine v_call_v (n := 474) xB_232 dL_law_471 xO_232 iv_17_57 rfl (sh_0 _ _ _) rfl rfl rfl ?_
        refine rd_I (p_jobs m0 L _ _) (by omega) hI (fun v m1 dy1 hng hM => ?_)
        have e3 : m1 (-3) = m (-3) := hng (-3) (by omega)
        refine v_aload_n (n := 475) xB_232 dL_law_474 rfl rfl ?_
        refine v_aload_n (n := 476) xB_232 dL_law_475 rfl rfl ?_
        refine v_iload_n (n := 477) xB_232 dL_law_476 rfl rfl ?_
        refine v_iconst (n := 478) xB_232 dL_law_477 ⟨by decide, by decide⟩ rfl ?_
        refine v_iadd (n := 479) xB_232 dL_law_478 (by first | omega | (simp only [sA_same, sA_s, ud_s, Int.reduceEq, if_true, if_false, ite_true, ite_false, ↓reduceIte, and_true, true_and, eq_self, Int.add_zero, Int.reduceAdd]; omega) | (simp (disch := omega) only [sA_same, sA_ne, ud_eq, ud_ne, Int.add_zero, Int.reduceAdd]; omega)) rfl ?_
        refine v_iaload (n := 480) (lz := (L : Int)) xB_232 dL_law_479 (sh_sc _ _ _) rfl (by first | omega | (simp only [sA_same, sA_s, ud_s, Int.reduceEq, if_true, if_false, ite_true, ite_false, ↓reduceIte, and_true, true_and, eq_self, Int.add_zero, Int.reduceAdd]; omega) | (simp (disch := omega) only [sA_same, sA_ne, ud_eq, ud_ne, Int.add_zero, Int.reduceAdd]; omega)) rfl ?_
        refine v_aload_n (n := 481) xB_232 dL_law_480 rfl rfl ?_
        refine v_iload_n (n := 482) xB_232 dL_law_481 rfl rfl ?_
        refine v_iconst (n := 483) xB_232 dL_law_482 ⟨by decide, by decide⟩ rfl ?_
        refine v_iadd (n := 484) xB_232 dL_law_483 (by first | omega | (simp only [sA_same, sA_s, ud_s, Int.reduceEq, if_true, if_false, ite_true, ite_false, ↓reduceIte, and_true, true_and, eq_self, Int.add_zero, Int.reduceAdd]; omega) | (simp (disch := omega) only [sA_same, sA_ne, ud_eq, ud_ne, Int.add_zero, Int.reduceAdd]; omega)) rfl ?_
        refine v_iaload (n := 485) (lz := (L : Int)) xB_232 dL_law_484 (sh_sc _ _ _) rfl (by first | omega | (simp only [sA_same, sA_s, ud_s, Int.reduceEq, if_true, if_false, ite_true, ite_false, ↓reduceIte, and_true, true_and, eq_self, Int.add_zero, Int.reduceAdd]; omega) | (simp (disch := omega) only [sA_same, sA_ne, ud_eq, ud_ne, Int.add_zero, Int.reduceAdd]; omega)) rfl ?_
        (try rw [e3, hm3])
        refine v_call_v (n := 488) xB_232 dL_law_485 xO_232 iv_17_60 rfl (sh_81 _ _ _) rfl rfl rfl ?_
        refine hM _ _ (by omega)  (fun m2 hI2 => ?_)
        refine v_ic_eq_y (t := 1457) xB_232 dL_law_488 (by decide) rfl (by first | omega | (simp only [sA_same, sA_s, ud_s, Int.reduceEq, if_true, if_false, ite_true, ite_false, ↓reduceIte, and_true, true_and, eq_self, Int.add_zero, Int.reduceAdd]; omega) | (simp (disch := omega) only [sA_same, sA_ne, ud_eq, ud_ne, Int.add_zero, Int.reduceAdd]; omega)) ?_
        refine v_iinc3 (n := 1460) xB_232 dL_law_1457 rfl (by first | omega | (simp only [sA_same, sA_s, ud_s, Int.reduceEq, if_true, if_false, ite_true, ite_false, ↓reduceIte, and_true, true_and, eq_self, Int.add_zero, Int.reduceAdd]; omega) | (simp (disch := omega) only [sA_same, sA_ne, ud_eq, ud_ne, Int.add_zero, Int.reduceAdd]; omega)) rfl ?_
        refine v_goto (t := 18) xB_232 dL_law_1460 (by decide) rfl ?_
        first | exact ih _ _ _ hI2 (by omega) (by omega) (by omega) | exact ih _ _ _ hI (by omega) (by omega) (by omega)
      refine ts_c (lo' := 12) rfl (fun g13 => ?_) (fun g13 => ?_)
      · refine jm_go (t := 493) (by decide) rfl ?_
        refine v_aload_n (n := 494) xB_232 dL_law_493 rfl rfl ?_
        refine v_aload_n (n := 495) xB_232 dL_law_494 rfl rfl ?_
        refine v_iload_n (n := 496) xB_232 dL_law_495 rfl rfl ?_
        refine v_iconst (n := 497) xB_232 dL_law_496 ⟨by decide, by decide⟩ rfl ?_
        refine v_iadd (n := 498) xB_232 dL_law_497 (by first | omega | (simp only [sA_same, sA_s, ud_s, Int.reduceEq, if_true, if_false, ite_true, ite_false, ↓reduceIte, and_true, true_and, eq_self, Int.add_zero, Int.reduceAdd]; omega) | (simp (disch := omega) only [sA_same, sA_ne, ud_eq, ud_ne, Int.add_zero, Int.reduceAdd]; omega)) rfl ?_
        refine v_iaload (n := 499) (lz := (L : Int)) xB_232 dL_law_498 (sh_sc _ _ _) rfl (by first | omega | (simp only [sA_same, sA_s, ud_s, Int.reduceEq, if_true, if_false, ite_true, ite_false, ↓reduceIte, and_true, true_and, eq_self, Int.add_zero, Int.reduceAdd]; omega) | (simp (disch := omega) only [sA_same, sA_ne, ud_eq, ud_ne, Int.add_zero, Int.reduceAdd]; omega)) rfl ?_
        refine v_aload_n (n := 500) xB_232 dL_law_499 rfl rfl ?_
        refine v_iload_n (n := 501) xB_232 dL_law_500 rfl rfl ?_
        refine v_iconst (n := 502) xB_232 dL_law_501 ⟨by decide, by decide⟩ rfl ?_
        refine v_iadd (n := 503) xB_232 dL_law_502 (by first | omega | (simp only [sA_same, sA_s, ud_s, Int.reduceEq, if_true, if_false, ite_true, ite_false, ↓reduceIte, and_true, true_and, eq_self, Int.add_zero, Int.reduceAdd]; omega) | (simp (disch := omega) only [sA_same, sA_ne, ud_eq, ud_ne, Int.add_zero, Int.reduceAdd]; omega)) rfl ?_
        refine v_iaload (n := 504) (lz := (L : Int)) xB_232 dL_law_503 (sh_sc _ _ _) rfl (by first | omega | (simp only [sA_same, sA_s, ud_s, Int.reduceEq, if_true, if_false, ite_true, ite_false, ↓reduceIte, and_true, true_and, eq_self, Int.add_zero, Int.reduceAdd]; omega) | (simp (disch := omega) only [sA_same, sA_ne, ud_eq, ud_ne, Int.add_zero, Int.reduceAdd]; omega)) rfl ?_
        (try rw [hm3])
        refine v_call_v (n := 507) xB_232 dL_law_504 xO_232 iv_17_61 rfl (sh_0 _ _ _) rfl rfl rfl ?_
        refine rd_I (p_run m0 L _ _) (by omega) hI (fun v m1 dy1 hng hM => ?_)
        have e3 : m1 (-3) = m (-3) := hng (-3) (by omega)
        refine v_aload_n (n := 508) xB_232 dL_law_507 rfl rfl ?_
        refine v_aload_n (n := 509) xB_232 dL_law_508 rfl rfl ?_
        refine v_iload_n (n := 510) xB_232 dL_law_509 rfl rfl ?_
        refine v_iconst (n := 511) xB_232 dL_law_510 ⟨by decide, by decide⟩ rfl ?_
        refine v_iadd (n := 512) xB_232 dL_law_511 (by first | omega | (simp only [sA_same, sA_s, ud_s, Int.reduceEq, if_true, if_false, ite_true, ite_false, ↓reduceIte, and_true, true_and, eq_self, Int.add_zero, Int.reduceAdd]; omega) | (simp (disch := omega) only [sA_same, sA_ne, ud_eq, ud_ne, Int.add_zero, Int.reduceAdd]; omega)) rfl ?_
        refine v_iaload (n := 513) (lz := (L : Int)) xB_232 dL_law_512 (sh_sc _ _ _) rfl (by first | omega | (simp only [sA_same, sA_s, ud_s, Int.reduceEq, if_true, if_false, ite_true, ite_false, ↓reduceIte, and_true, true_and, eq_self, Int.add_zero, Int.reduceAdd]; omega) | (simp (disch := omega) only [sA_same, sA_ne, ud_eq, ud_ne, Int.add_zero, Int.reduceAdd]; omega)) rfl ?_
        refine v_aload_n (n := 514) xB_232 dL_law_513 rfl rfl ?_
        refine v_iload_n (n := 515) xB_232 dL_law_514 rfl rfl ?_
        refine v_iconst (n := 516) xB_232 dL_law_515 ⟨by decide, by decide⟩ rfl ?_
        refine v_iadd (n := 517) xB_232 dL_law_516 (by first | omega | (simp only [sA_same, sA_s, ud_s, Int.reduceEq, if_true, if_false, ite_true, ite_false, ↓reduceIte, and_true, true_and, eq_self, Int.add_zero, Int.reduceAdd]; omega) | (simp (disch := omega) only [sA_same, sA_ne, ud_eq, ud_ne, Int.add_zero, Int.reduceAdd]; omega)) rfl ?_
        refine v_iaload (n := 518) (lz := (L : Int)) xB_232 dL_law_517 (sh_sc _ _ _) rfl (by first | omega | (simp only [sA_same, sA_s, ud_s, Int.reduceEq, if_true, if_false, ite_true, ite_false, ↓reduceIte, and_true, true_and, eq_self, Int.add_zero, Int.reduceAdd]; omega) | (simp (disch := omega) only [sA_same, sA_ne, ud_eq, ud_ne, Int.add_zero, Int.reduceAdd]; omega)) rfl ?_
        (try rw [e3, hm3])
        refine v_call_v (n := 521) xB_232 dL_law_518 xO_232 iv_17_64 rfl (sh_81 _ _ _) rfl rfl rfl ?_
        refine hM _ _ (by omega)  (fun m2 hI2 => ?_)
        refine v_ic_eq_y (t := 1457) xB_232 dL_law_521 (by decide) rfl (by first | omega | (simp only [sA_same, sA_s, ud_s, Int.reduceEq, if_true, if_false, ite_true, ite_false, ↓reduceIte, and_true, true_and, eq_self, Int.add_zero, Int.reduceAdd]; omega) | (simp (disch := omega) only [sA_same, sA_ne, ud_eq, ud_ne, Int.add_zero, Int.reduceAdd]; omega)) ?_
        refine v_iinc3 (n := 1460) xB_232 dL_law_1457 rfl (by first | omega | (simp only [sA_same, sA_s, ud_s, Int.reduceEq, if_true, if_false, ite_true, ite_false, ↓reduceIte, and_true, true_and, eq_self, Int.add_zero, Int.reduceAdd]; omega) | (simp (disch := omega) only [sA_same, sA_ne, ud_eq, ud_ne, Int.add_zero, Int.reduceAdd]; omega)) rfl ?_
        refine v_goto (t := 18) xB_232 dL_law_1460 (by decide) rfl ?_
        first | exact ih _ _ _ hI2 (by omega) (by omega) (by omega) | exact ih _ _ _ hI (by omega) (by omega) (by omega)
      refine ts_c (lo' := 13) rfl (fun g14 => ?_) (fun g14 => ?_)
      · refine jm_go (t := 526) (by decide) rfl ?_
        refine v_aload_n (n := 527) xB_232 dL_law_526 rfl rfl ?_
        refine v_aload_n (n := 528) xB_232 dL_law_527 rfl rfl ?_
        refine v_iload_n (n := 529) xB_232 dL_law_528 rfl rfl ?_
        refine v_iconst (n := 530) xB_232 dL_law_529 ⟨by decide, by decide⟩ rfl ?_
        refine v_iadd (n := 531) xB_232 dL_law_530 (by first | omega | (simp only [sA_same, sA_s, ud_s, Int.reduceEq, if_true, if_false, ite_true, ite_false, ↓reduceIte, and_true, true_and, eq_self, Int.add_zero, Int.reduceAdd]; omega) | (simp (disch := omega) only [sA_same, sA_ne, ud_eq, ud_ne, Int.add_zero, Int.reduceAdd]; omega)) rfl ?_
        refine v_iaload (n := 532) (lz := (L : Int)) xB_232 dL_law_531 (sh_sc _ _ _) rfl (by first | omega | (simp only [sA_same, sA_s, ud_s, Int.reduceEq, if_true, if_false, ite_true, ite_false, ↓reduceIte, and_true, true_and, eq_self, Int.add_zero, Int.reduceAdd]; omega) | (simp (disch := omega) only [sA_same, sA_ne, ud_eq, ud_ne, Int.add_zero, Int.reduceAdd]; omega)) rfl ?_
        refine v_aload_n (n := 533) xB_232 dL_law_532 rfl rfl ?_
        refine v_iload_n (n := 534) xB_232 dL_law_533 rfl rfl ?_
        refine v_iconst (n := 535) xB_232 dL_law_534 ⟨by decide, by decide⟩ rfl ?_
        refine v_iadd (n := 536) xB_232 dL_law_535 (by first | omega | (simp only [sA_same, sA_s, ud_s, Int.reduceEq, if_true, if_false, ite_true, ite_false, ↓reduceIte, and_true, true_and, eq_self, Int.add_zero, Int.reduceAdd]; omega) | (simp (disch := omega) only [sA_same, sA_ne, ud_eq, ud_ne, Int.add_zero, Int.reduceAdd]; omega)) rfl ?_
        refine v_iaload (n := 537) (lz := (L : Int)) xB_232 dL_law_536 (sh_sc _ _ _) rfl (by first | omega | (simp only [sA_same, sA_s, ud_s, Int.reduceEq, if_true, if_false, ite_true, ite_false, ↓reduceIte, and_true, true_and, eq_self, Int.add_zero, Int.reduceAdd]; omega) | (simp (disch := omega) only [sA_same, sA_ne, ud_eq, ud_ne, Int.add_zero, Int.reduceAdd]; omega)) rfl ?_
        refine v_aload_n (n := 538) xB_232 dL_law_537 rfl rfl ?_
        refine v_iload_n (n := 539) xB_232 dL_law_538 rfl rfl ?_
        refine v_iconst (n := 540) xB_232 dL_law_539 ⟨by decide, by decide⟩ rfl ?_
        refine v_iadd (n := 541) xB_232 dL_law_540 (by first | omega | (simp only [sA_same, sA_s, ud_s, Int.reduceEq, if_true, if_false, ite_true, ite_false, ↓reduceIte, and_true, true_and, eq_self, Int.add_zero, Int.reduceAdd]; omega) | (simp (disch := omega) only [sA_same, sA_ne, ud_eq, ud_ne, Int.add_zero, Int.reduceAdd]; omega)) rfl ?_
        refine v_iaload (n := 542) (lz := (L : Int)) xB_232 dL_law_541 (sh_sc _ _ _) rfl (by first | omega | (simp only [sA_same, sA_s, ud_s, Int.reduceEq, if_true, if_false, ite_true, ite_false, ↓reduceIte, and_true, true_and, eq_self, Int.add_zero, Int.reduceAdd]; omega) | (simp (disch := omega) only [sA_same, sA_ne, ud_eq, ud_ne, Int.add_zero, Int.reduceAdd]; omega)) rfl ?_
        (try rw [hm3])
        refine v_call_v (n := 545) xB_232 dL_law_542 xO_232 iv_17_65 rfl (sh_0 _ _ _) rfl rfl rfl ?_
        refine rd_I (p_after m0 L _ _ _) (by omega) hI (fun v m1 dy1 hng hM => ?_)
        have e3 : m1 (-3) = m (-3) := hng (-3) (by omega)
        refine v_aload_n (n := 546) xB_232 dL_law_545 rfl rfl ?_
        refine v_aload_n (n := 547) xB_232 dL_law_546 rfl rfl ?_
        refine v_iload_n (n := 548) xB_232 dL_law_547 rfl rfl ?_
        refine v_iconst (n := 549) xB_232 dL_law_548 ⟨by decide, by decide⟩ rfl ?_
        refine v_iadd (n := 550) xB_232 dL_law_549 (by first | omega | (simp only [sA_same, sA_s, ud_s, Int.reduceEq, if_true, if_false, ite_true, ite_false, ↓reduceIte, and_true, true_and, eq_self, Int.add_zero, Int.reduceAdd]; omega) | (simp (disch := omega) only [sA_same, sA_ne, ud_eq, ud_ne, Int.add_zero, Int.reduceAdd]; omega)) rfl ?_
        refine v_iaload (n := 551) (lz := (L : Int)) xB_232 dL_law_550 (sh_sc _ _ _) rfl (by first | omega | (simp only [sA_same, sA_s, ud_s, Int.reduceEq, if_true, if_false, ite_true, ite_false, ↓reduceIte, and_true, true_and, eq_self, Int.add_zero, Int.reduceAdd]; omega) | (simp (disch := omega) only [sA_same, sA_ne, ud_eq, ud_ne, Int.add_zero, Int.reduceAdd]; omega)) rfl ?_
        refine v_aload_n (n := 552) xB_232 dL_law_551 rfl rfl ?_
        refine v_iload_n (n := 553) xB_232 dL_law_552 rfl rfl ?_
        refine v_iconst (n := 554) xB_232 dL_law_553 ⟨by decide, by decide⟩ rfl ?_
        refine v_iadd (n := 555) xB_232 dL_law_554 (by first | omega | (simp only [sA_same, sA_s, ud_s, Int.reduceEq, if_true, if_false, ite_true, ite_false, ↓reduceIte, and_true, true_and, eq_self, Int.add_zero, Int.reduceAdd]; omega) | (simp (disch := omega) only [sA_same, sA_ne, ud_eq, ud_ne, Int.add_zero, Int.reduceAdd]; omega)) rfl ?_
        refine v_iaload (n := 556) (lz := (L : Int)) xB_232 dL_law_555 (sh_sc _ _ _) rfl (by first | omega | (simp only [sA_same, sA_s, ud_s, Int.reduceEq, if_true, if_false, ite_true, ite_false, ↓reduceIte, and_true, true_and, eq_self, Int.add_zero, Int.reduceAdd]; omega) | (simp (disch := omega) only [sA_same, sA_ne, ud_eq, ud_ne, Int.add_zero, Int.reduceAdd]; omega)) rfl ?_
        refine v_aload_n (n := 557) xB_232 dL_law_556 rfl rfl ?_
        refine v_iload_n (n := 558) xB_232 dL_law_557 rfl rfl ?_
        refine v_iconst (n := 559) xB_232 dL_law_558 ⟨by decide, by decide⟩ rfl ?_
        refine v_iadd (n := 560) xB_232 dL_law_559 (by first | omega | (simp only [sA_same, sA_s, ud_s, Int.reduceEq, if_true, if_false, ite_true, ite_false, ↓reduceIte, and_true, true_and, eq_self, Int.add_zero, Int.reduceAdd]; omega) | (simp (disch := omega) only [sA_same, sA_ne, ud_eq, ud_ne, Int.add_zero, Int.reduceAdd]; omega)) rfl ?_
        refine v_iaload (n := 561) (lz := (L : Int)) xB_232 dL_law_560 (sh_sc _ _ _) rfl (by first | omega | (simp only [sA_same, sA_s, ud_s, Int.reduceEq, if_true, if_false, ite_true, ite_false, ↓reduceIte, and_true, true_and, eq_self, Int.add_zero, Int.reduceAdd]; omega) | (simp (disch := omega) only [sA_same, sA_ne, ud_eq, ud_ne, Int.add_zero, Int.reduceAdd]; omega)) rfl ?_
        (try rw [e3, hm3])
        refine v_call_v (n := 564) xB_232 dL_law_561 xO_232 iv_17_68 rfl (sh_81 _ _ _) rfl rfl rfl ?_
        refine hM _ _ (by omega)  (fun m2 hI2 => ?_)
        refine v_ic_eq_y (t := 1457) xB_232 dL_law_564 (by decide) rfl (by first | omega | (simp only [sA_same, sA_s, ud_s, Int.reduceEq, if_true, if_false, ite_true, ite_false, ↓reduceIte, and_true, true_and, eq_self, Int.add_zero, Int.reduceAdd]; omega) | (simp (disch := omega) only [sA_same, sA_ne, ud_eq, ud_ne, Int.add_zero, Int.reduceAdd]; omega)) ?_
        refine v_iinc3 (n := 1460) xB_232 dL_law_1457 rfl (by first | omega | (simp only [sA_same, sA_s, ud_s, Int.reduceEq, if_true, if_false, ite_true, ite_false, ↓reduceIte, and_true, true_and, eq_self, Int.add_zero, Int.reduceAdd]; omega) | (simp (disch := omega) only [sA_same, sA_ne, ud_eq, ud_ne, Int.add_zero, Int.reduceAdd]; omega)) rfl ?_
        refine v_goto (t := 18) xB_232 dL_law_1460 (by decide) rfl ?_
        first | exact ih _ _ _ hI2 (by omega) (by omega) (by omega) | exact ih _ _ _ hI (by omega) (by omega) (by omega)
      refine ts_c (lo' := 14) rfl (fun g15 => ?_) (fun g15 => ?_)
      · refine jm_go (t := 569) (by decide) rfl ?_
        refine v_aload_n (n := 570) xB_232 dL_law_569 rfl rfl ?_
        refine v_aload_n (n := 571) xB_232 dL_law_570 rfl rfl ?_
        refine v_iload_n (n := 572) xB_232 dL_law_571 rfl rfl ?_
        refine v_iconst (n := 573) xB_232 dL_law_572 ⟨by decide, by decide⟩ rfl ?_
        refine v_iadd (n := 574) xB_232 dL_law_573 (by first | omega | (simp only [sA_same, sA_s, ud_s, Int.reduceEq, if_true, if_false, ite_true, ite_false, ↓reduceIte, and_true, true_and, eq_self, Int.add_zero, Int.reduceAdd]; omega) | (simp (disch := omega) only [sA_same, sA_ne, ud_eq, ud_ne, Int.add_zero, Int.reduceAdd]; omega)) rfl ?_
        refine v_iaload (n := 575) (lz := (L : Int)) xB_232 dL_law_574 (sh_sc _ _ _) rfl (by first | omega | (simp only [sA_same, sA_s, ud_s, Int.reduceEq, if_true, if_false, ite_true, ite_false, ↓reduceIte, and_true, true_and, eq_self, Int.add_zero, Int.reduceAdd]; omega) | (simp (disch := omega) only [sA_same, sA_ne, ud_eq, ud_ne, Int.add_zero, Int.reduceAdd]; omega)) rfl ?_
        (try rw [hm3])
        refine v_call_v (n := 578) xB_232 dL_law_575 xO_232 iv_17_69 rfl (sh_0 _ _ _) rfl rfl rfl ?_
        refine rd_I (p_best m0 L _) (by omega) hI (fun v m1 dy1 hng hM => ?_)
        have e3 : m1 (-3) = m (-3) := hng (-3) (by omega)
        refine v_aload_n (n := 579) xB_232 dL_law_578 rfl rfl ?_
        refine v_aload_n (n := 580) xB_232 dL_law_579 rfl rfl ?_
        refine v_iload_n (n := 581) xB_232 dL_law_580 rfl rfl ?_
        refine v_iconst (n := 582) xB_232 dL_law_581 ⟨by decide, by decide⟩ rfl ?_
        refine v_iadd (n := 583) xB_232 dL_law_582 (by first | omega | (simp only [sA_same, sA_s, ud_s, Int.reduceEq, if_true, if_false, ite_true, ite_false, ↓reduceIte, and_true, true_and, eq_self, Int.add_zero, Int.reduceAdd]; omega) | (simp (disch := omega) only [sA_same, sA_ne, ud_eq, ud_ne, Int.add_zero, Int.reduceAdd]; omega)) rfl ?_
        refine v_iaload (n := 584) (lz := (L : Int)) xB_232 dL_law_583 (sh_sc _ _ _) rfl (by first | omega | (simp only [sA_same, sA_s, ud_s, Int.reduceEq, if_true, if_false, ite_true, ite_false, ↓reduceIte, and_true, true_and, eq_self, Int.add_zero, Int.reduceAdd]; omega) | (simp (disch := omega) only [sA_same, sA_ne, ud_eq, ud_ne, Int.add_zero, Int.reduceAdd]; omega)) rfl ?_
        (try rw [e3, hm3])
        refine v_call_v (n := 587) xB_232 dL_law_584 xO_232 iv_17_72 rfl (sh_81 _ _ _) rfl rfl rfl ?_
        refine hM _ _ (by omega)  (fun m2 hI2 => ?_)
        refine v_ic_eq_y (t := 1457) xB_232 dL_law_587 (by decide) rfl (by first | omega | (simp only [sA_same, sA_s, ud_s, Int.reduceEq, if_true, if_false, ite_true, ite_false, ↓reduceIte, and_true, true_and, eq_self, Int.add_zero, Int.reduceAdd]; omega) | (simp (disch := omega) only [sA_same, sA_ne, ud_eq, ud_ne, Int.add_zero, Int.reduceAdd]; omega)) ?_
        refine v_iinc3 (n := 1460) xB_232 dL_law_1457 rfl (by first | omega | (simp only [sA_same, sA_s, ud_s, Int.reduceEq, if_true, if_false, ite_true, ite_false, ↓reduceIte, and_true, true_and, eq_self, Int.add_zero, Int.reduceAdd]; omega) | (simp (disch := omega) only [sA_same, sA_ne, ud_eq, ud_ne, Int.add_zero, Int.reduceAdd]; omega)) rfl ?_
        refine v_goto (t := 18) xB_232 dL_law_1460 (by decide) rfl ?_
        first | exact ih _ _ _ hI2 (by omega) (by omega) (by omega) | exact ih _ _ _ hI (by omega) (by omega) (by omega)
      refine ts_c (lo' := 15) rfl (fun g16 => ?_) (fun g16 => ?_)
      · refine jm_go (t := 592) (by decide) rfl ?_
        refine v_aload_n (n := 593) xB_232 dL_law_592 rfl rfl ?_
        refine v_aload_n (n := 594) xB_232 dL_law_593 rfl rfl ?_
        refine v_iload_n (n := 595) xB_232 dL_law_594 rfl rfl ?_
        refine v_iconst (n := 596) xB_232 dL_law_595 ⟨by decide, by decide⟩ rfl ?_
        refine v_iadd (n := 597) xB_232 dL_law_596 (by first | omega | (simp only [sA_same, sA_s, ud_s, Int.reduceEq, if_true, if_false, ite_true, ite_false, ↓reduceIte, and_true, true_and, eq_self, Int.add_zero, Int.reduceAdd]; omega) | (simp (disch := omega) only [sA_same, sA_ne, ud_eq, ud_ne, Int.add_zero, Int.reduceAdd]; omega)) rfl ?_
        refine v_iaload (n := 598) (lz := (L : Int)) xB_232 dL_law_597 (sh_sc _ _ _) rfl (by first | omega | (simp only [sA_same, sA_s, ud_s, Int.reduceEq, if_true, if_false, ite_true, ite_false, ↓reduceIte, and_true, true_and, eq_self, Int.add_zero, Int.reduceAdd]; omega) | (simp (disch := omega) only [sA_same, sA_ne, ud_eq, ud_ne, Int.add_zero, Int.reduceAdd]; omega)) rfl ?_
        refine v_aload_n (n := 599) xB_232 dL_law_598 rfl rfl ?_
        refine v_iload_n (n := 600) xB_232 dL_law_599 rfl rfl ?_
        refine v_iconst (n := 601) xB_232 dL_law_600 ⟨by decide, by decide⟩ rfl ?_
        refine v_iadd (n := 602) xB_232 dL_law_601 (by first | omega | (simp only [sA_same, sA_s, ud_s, Int.reduceEq, if_true, if_false, ite_true, ite_false, ↓reduceIte, and_true, true_and, eq_self, Int.add_zero, Int.reduceAdd]; omega) | (simp (disch := omega) only [sA_same, sA_ne, ud_eq, ud_ne, Int.add_zero, Int.reduceAdd]; omega)) rfl ?_
        refine v_iaload (n := 603) (lz := (L : Int)) xB_232 dL_law_602 (sh_sc _ _ _) rfl (by first | omega | (simp only [sA_same, sA_s, ud_s, Int.reduceEq, if_true, if_false, ite_true, ite_false, ↓reduceIte, and_true, true_and, eq_self, Int.add_zero, Int.reduceAdd]; omega) | (simp (disch := omega) only [sA_same, sA_ne, ud_eq, ud_ne, Int.add_zero, Int.reduceAdd]; omega)) rfl ?_
        (try rw [hm3])
        refine v_call_v (n := 606) xB_232 dL_law_603 xO_232 iv_17_73 rfl (sh_0 _ _ _) rfl rfl rfl ?_
        refine rd_I (p_uses m0 L _ _) (by omega) hI (fun v m1 dy1 hng hM => ?_)
        have e3 : m1 (-3) = m (-3) := hng (-3) (by omega)
        refine v_aload_n (n := 607) xB_232 dL_law_606 rfl rfl ?_
        refine v_aload_n (n := 608) xB_232 dL_law_607 rfl rfl ?_
        refine v_iload_n (n := 609) xB_232 dL_law_608 rfl rfl ?_
        refine v_iconst (n := 610) xB_232 dL_law_609 ⟨by decide, by decide⟩ rfl ?_
        refine v_iadd (n := 611) xB_232 dL_law_610 (by first | omega | (simp only [sA_same, sA_s, ud_s, Int.reduceEq, if_true, if_false, ite_true, ite_false, ↓reduceIte, and_true, true_and, eq_self, Int.add_zero, Int.reduceAdd]; omega) | (simp (disch := omega) only [sA_same, sA_ne, ud_eq, ud_ne, Int.add_zero, Int.reduceAdd]; omega)) rfl ?_
        refine v_iaload (n := 612) (lz := (L : Int)) xB_232 dL_law_611 (sh_sc _ _ _) rfl (by first | omega | (simp only [sA_same, sA_s, ud_s, Int.reduceEq, if_true, if_false, ite_true, ite_false, ↓reduceIte, and_true, true_and, eq_self, Int.add_zero, Int.reduceAdd]; omega) | (simp (disch := omega) only [sA_same, sA_ne, ud_eq, ud_ne, Int.add_zero, Int.reduceAdd]; omega)) rfl ?_
        refine v_aload_n (n := 613) xB_232 dL_law_612 rfl rfl ?_
        refine v_iload_n (n := 614) xB_232 dL_law_613 rfl rfl ?_
        refine v_iconst (n := 615) xB_232 dL_law_614 ⟨by decide, by decide⟩ rfl ?_
        refine v_iadd (n := 616) xB_232 dL_law_615 (by first | omega | (simp only [sA_same, sA_s, ud_s, Int.reduceEq, if_true, if_false, ite_true, ite_false, ↓reduceIte, and_true, true_and, eq_self, Int.add_zero, Int.reduceAdd]; omega) | (simp (disch := omega) only [sA_same, sA_ne, ud_eq, ud_ne, Int.add_zero, Int.reduceAdd]; omega)) rfl ?_
        refine v_iaload (n := 617) (lz := (L : Int)) xB_232 dL_law_616 (sh_sc _ _ _) rfl (by first | omega | (simp only [sA_same, sA_s, ud_s, Int.reduceEq, if_true, if_false, ite_true, ite_false, ↓reduceIte, and_true, true_and, eq_self, Int.add_zero, Int.reduceAdd]; omega) | (simp (disch := omega) only [sA_same, sA_ne, ud_eq, ud_ne, Int.add_zero, Int.reduceAdd]; omega)) rfl ?_
        (try rw [e3, hm3])
        refine v_call_v (n := 620) xB_232 dL_law_617 xO_232 iv_17_76 rfl (sh_81 _ _ _) rfl rfl rfl ?_
        refine hM _ _ (by omega)  (fun m2 hI2 => ?_)
        refine v_ic_eq_y (t := 1457) xB_232 dL_law_620 (by decide) rfl (by first | omega | (simp only [sA_same, sA_s, ud_s, Int.reduceEq, if_true, if_false, ite_true, ite_false, ↓reduceIte, and_true, true_and, eq_self, Int.add_zero, Int.reduceAdd]; omega) | (simp (disch := omega) only [sA_same, sA_ne, ud_eq, ud_ne, Int.add_zero, Int.reduceAdd]; omega)) ?_
        refine v_iinc3 (n := 1460) xB_232 dL_law_1457 rfl (by first | omega | (simp only [sA_same, sA_s, ud_s, Int.reduceEq, if_true, if_false, ite_true, ite_false, ↓reduceIte, and_true, true_and, eq_self, Int.add_zero, Int.reduceAdd]; omega) | (simp (disch := omega) only [sA_same, sA_ne, ud_eq, ud_ne, Int.add_zero, Int.reduceAdd]; omega)) rfl ?_
        refine v_goto (t := 18) xB_232 dL_law_1460 (by decide) rfl ?_
        first | exact ih _ _ _ hI2 (by omega) (by omega) (by omega) | exact ih _ _ _ hI (by omega) (by omega) (by omega)
      refine ts_c (lo' := 16) rfl (fun g17 => ?_) (fun g17 => ?_)
      · refine jm_go (t := 625) (by decide) rfl ?_
        refine v_aload_n (n := 626) xB_232 dL_law_625 rfl rfl ?_
        refine v_aload_n (n := 627) xB_232 dL_law_626 rfl rfl ?_
        refine v_iload_n (n := 628) xB_232 dL_law_627 rfl rfl ?_
        refine v_iconst (n := 629) xB_232 dL_law_628 ⟨by decide, by decide⟩ rfl ?_
        refine v_iadd (n := 630) xB_232 dL_law_629 (by first | omega | (simp only [sA_same, sA_s, ud_s, Int.reduceEq, if_true, if_false, ite_true, ite_false, ↓reduceIte, and_true, true_and, eq_self, Int.add_zero, Int.reduceAdd]; omega) | (simp (disch := omega) only [sA_same, sA_ne, ud_eq, ud_ne, Int.add_zero, Int.reduceAdd]; omega)) rfl ?_
        refine v_iaload (n := 631) (lz := (L : Int)) xB_232 dL_law_630 (sh_sc _ _ _) rfl (by first | omega | (simp only [sA_same, sA_s, ud_s, Int.reduceEq, if_true, if_false, ite_true, ite_false, ↓reduceIte, and_true, true_and, eq_self, Int.add_zero, Int.reduceAdd]; omega) | (simp (disch := omega) only [sA_same, sA_ne, ud_eq, ud_ne, Int.add_zero, Int.reduceAdd]; omega)) rfl ?_
        refine v_aload_n (n := 632) xB_232 dL_law_631 rfl rfl ?_
        refine v_iload_n (n := 633) xB_232 dL_law_632 rfl rfl ?_
        refine v_iconst (n := 634) xB_232 dL_law_633 ⟨by decide, by decide⟩ rfl ?_
        refine v_iadd (n := 635) xB_232 dL_law_634 (by first | omega | (simp only [sA_same, sA_s, ud_s, Int.reduceEq, if_true, if_false, ite_true, ite_false, ↓reduceIte, and_true, true_and, eq_self, Int.add_zero, Int.reduceAdd]; omega) | (simp (disch := omega) only [sA_same, sA_ne, ud_eq, ud_ne, Int.add_zero, Int.reduceAdd]; omega)) rfl ?_
        refine v_iaload (n := 636) (lz := (L : Int)) xB_232 dL_law_635 (sh_sc _ _ _) rfl (by first | omega | (simp only [sA_same, sA_s, ud_s, Int.reduceEq, if_true, if_false, ite_true, ite_false, ↓reduceIte, and_true, true_and, eq_self, Int.add_zero, Int.reduceAdd]; omega) | (simp (disch := omega) only [sA_same, sA_ne, ud_eq, ud_ne, Int.add_zero, Int.reduceAdd]; omega)) rfl ?_
        refine v_aload_n (n := 637) xB_232 dL_law_636 rfl rfl ?_
        refine v_iload_n (n := 638) xB_232 dL_law_637 rfl rfl ?_
        refine v_iconst (n := 639) xB_232 dL_law_638 ⟨by decide, by decide⟩ rfl ?_
        refine v_iadd (n := 640) xB_232 dL_law_639 (by first | omega | (simp only [sA_same, sA_s, ud_s, Int.reduceEq, if_true, if_false, ite_true, ite_false, ↓reduceIte, and_true, true_and, eq_self, Int.add_zero, Int.reduceAdd]; omega) | (simp (disch := omega) only [sA_same, sA_ne, ud_eq, ud_ne, Int.add_zero, Int.reduceAdd]; omega)) rfl ?_
        refine v_iaload (n := 641) (lz := (L : Int)) xB_232 dL_law_640 (sh_sc _ _ _) rfl (by first | omega | (simp only [sA_same, sA_s, ud_s, Int.reduceEq, if_true, if_false, ite_true, ite_false, ↓reduceIte, and_true, true_and, eq_self, Int.add_zero, Int.reduceAdd]; omega) | (simp (disch := omega) only [sA_same, sA_ne, ud_eq, ud_ne, Int.add_zero, Int.reduceAdd]; omega)) rfl ?_
        refine v_aload_n (n := 642) xB_232 dL_law_641 rfl rfl ?_
        refine v_iload_n (n := 643) xB_232 dL_law_642 rfl rfl ?_
        refine v_iconst (n := 644) xB_232 dL_law_643 ⟨by decide, by decide⟩ rfl ?_
        refine v_iadd (n := 645) xB_232 dL_law_644 (by first | omega | (simp only [sA_same, sA_s, ud_s, Int.reduceEq, if_true, if_false, ite_true, ite_false, ↓reduceIte, and_true, true_and, eq_self, Int.add_zero, Int.reduceAdd]; omega) | (simp (disch := omega) only [sA_same, sA_ne, ud_eq, ud_ne, Int.add_zero, Int.reduceAdd]; omega)) rfl ?_
        refine v_iaload (n := 646) (lz := (L : Int)) xB_232 dL_law_645 (sh_sc _ _ _) rfl (by first | omega | (simp only [sA_same, sA_s, ud_s, Int.reduceEq, if_true, if_false, ite_true, ite_false, ↓reduceIte, and_true, true_and, eq_self, Int.add_zero, Int.reduceAdd]; omega) | (simp (disch := omega) only [sA_same, sA_ne, ud_eq, ud_ne, Int.add_zero, Int.reduceAdd]; omega)) rfl ?_
        refine v_aload_n (n := 647) xB_232 dL_law_646 rfl rfl ?_
        refine v_iload_n (n := 648) xB_232 dL_law_647 rfl rfl ?_
        refine v_iconst (n := 649) xB_232 dL_law_648 ⟨by decide, by decide⟩ rfl ?_
        refine v_iadd (n := 650) xB_232 dL_law_649 (by first | omega | (simp only [sA_same, sA_s, ud_s, Int.reduceEq, if_true, if_false, ite_true, ite_false, ↓reduceIte, and_true, true_and, eq_self, Int.add_zero, Int.reduceAdd]; omega) | (simp (disch := omega) only [sA_same, sA_ne, ud_eq, ud_ne, Int.add_zero, Int.reduceAdd]; omega)) rfl ?_
        refine v_iaload (n := 651) (lz := (L : Int)) xB_232 dL_law_650 (sh_sc _ _ _) rfl (by first | omega | (simp only [sA_same, sA_s, ud_s, Int.reduceEq, if_true, if_false, ite_true, ite_false, ↓reduceIte, and_true, true_and, eq_self, Int.add_zero, Int.reduceAdd]; omega) | (simp (disch := omega) only [sA_same, sA_ne, ud_eq, ud_ne, Int.add_zero, Int.reduceAdd]; omega)) rfl ?_
        (try rw [hm3])
        refine v_call_v (n := 654) xB_232 dL_law_651 xO_232 iv_17_77 rfl (sh_0 _ _ _) rfl rfl rfl ?_
        refine rd_I (p_way m0 L _ _ _ _ _) (by omega) hI (fun v m1 dy1 hng hM => ?_)
        have e3 : m1 (-3) = m (-3) := hng (-3) (by omega)
        refine v_aload_n (n := 655) xB_232 dL_law_654 rfl rfl ?_
        refine v_aload_n (n := 656) xB_232 dL_law_655 rfl rfl ?_
        refine v_iload_n (n := 657) xB_232 dL_law_656 rfl rfl ?_
        refine v_iconst (n := 658) xB_232 dL_law_657 ⟨by decide, by decide⟩ rfl ?_
        refine v_iadd (n := 659) xB_232 dL_law_658 (by first | omega | (simp only [sA_same, sA_s, ud_s, Int.reduceEq, if_true, if_false, ite_true, ite_false, ↓reduceIte, and_true, true_and, eq_self, Int.add_zero, Int.reduceAdd]; omega) | (simp (disch := omega) only [sA_same, sA_ne, ud_eq, ud_ne, Int.add_zero, Int.reduceAdd]; omega)) rfl ?_
        refine v_iaload (n := 660) (lz := (L : Int)) xB_232 dL_law_659 (sh_sc _ _ _) rfl (by first | omega | (simp only [sA_same, sA_s, ud_s, Int.reduceEq, if_true, if_false, ite_true, ite_false, ↓reduceIte, and_true, true_and, eq_self, Int.add_zero, Int.reduceAdd]; omega) | (simp (disch := omega) only [sA_same, sA_ne, ud_eq, ud_ne, Int.add_zero, Int.reduceAdd]; omega)) rfl ?_
        refine v_aload_n (n := 661) xB_232 dL_law_660 rfl rfl ?_
        refine v_iload_n (n := 662) xB_232 dL_law_661 rfl rfl ?_
        refine v_iconst (n := 663) xB_232 dL_law_662 ⟨by decide, by decide⟩ rfl ?_
        refine v_iadd (n := 664) xB_232 dL_law_663 (by first | omega | (simp only [sA_same, sA_s, ud_s, Int.reduceEq, if_true, if_false, ite_true, ite_false, ↓reduceIte, and_true, true_and, eq_self, Int.add_zero, Int.reduceAdd]; omega) | (simp (disch := omega) only [sA_same, sA_ne, ud_eq, ud_ne, Int.add_zero, Int.reduceAdd]; omega)) rfl ?_
        refine v_iaload (n := 665) (lz := (L : Int)) xB_232 dL_law_664 (sh_sc _ _ _) rfl (by first | omega | (simp only [sA_same, sA_s, ud_s, Int.reduceEq, if_true, if_false, ite_true, ite_false, ↓reduceIte, and_true, true_and, eq_self, Int.add_zero, Int.reduceAdd]; omega) | (simp (disch := omega) only [sA_same, sA_ne, ud_eq, ud_ne, Int.add_zero, Int.reduceAdd]; omega)) rfl ?_
        refine v_aload_n (n := 666) xB_232 dL_law_665 rfl rfl ?_
        refine v_iload_n (n := 667) xB_232 dL_law_666 rfl rfl ?_
        refine v_iconst (n := 668) xB_232 dL_law_667 ⟨by decide, by decide⟩ rfl ?_
        refine v_iadd (n := 669) xB_232 dL_law_668 (by first | omega | (simp only [sA_same, sA_s, ud_s, Int.reduceEq, if_true, if_false, ite_true, ite_false, ↓reduceIte, and_true, true_and, eq_self, Int.add_zero, Int.reduceAdd]; omega) | (simp (disch := omega) only [sA_same, sA_ne, ud_eq, ud_ne, Int.add_zero, Int.reduceAdd]; omega)) rfl ?_
        refine v_iaload (n := 670) (lz := (L : Int)) xB_232 dL_law_669 (sh_sc _ _ _) rfl (by first | omega | (simp only [sA_same, sA_s, ud_s, Int.reduceEq, if_true, if_false, ite_true, ite_false, ↓reduceIte, and_true, true_and, eq_self, Int.add_zero, Int.reduceAdd]; omega) | (simp (disch := omega) only [sA_same, sA_ne, ud_eq, ud_ne, Int.add_zero, Int.reduceAdd]; omega)) rfl ?_
        refine v_aload_n (n := 671) xB_232 dL_law_670 rfl rfl ?_
        refine v_iload_n (n := 672) xB_232 dL_law_671 rfl rfl ?_
        refine v_iconst (n := 673) xB_232 dL_law_672 ⟨by decide, by decide⟩ rfl ?_
        refine v_iadd (n := 674) xB_232 dL_law_673 (by first | omega | (simp only [sA_same, sA_s, ud_s, Int.reduceEq, if_true, if_false, ite_true, ite_false, ↓reduceIte, and_true, true_and, eq_self, Int.add_zero, Int.reduceAdd]; omega) | (simp (disch := omega) only [sA_same, sA_ne, ud_eq, ud_ne, Int.add_zero, Int.reduceAdd]; omega)) rfl ?_
        refine v_iaload (n := 675) (lz := (L : Int)) xB_232 dL_law_674 (sh_sc _ _ _) rfl (by first | omega | (simp only [sA_same, sA_s, ud_s, Int.reduceEq, if_true, if_false, ite_true, ite_false, ↓reduceIte, and_true, true_and, eq_self, Int.add_zero, Int.reduceAdd]; omega) | (simp (disch := omega) only [sA_same, sA_ne, ud_eq, ud_ne, Int.add_zero, Int.reduceAdd]; omega)) rfl ?_
        refine v_aload_n (n := 676) xB_232 dL_law_675 rfl rfl ?_
        refine v_iload_n (n := 677) xB_232 dL_law_676 rfl rfl ?_
        refine v_iconst (n := 678) xB_232 dL_law_677 ⟨by decide, by decide⟩ rfl ?_
        refine v_iadd (n := 679) xB_232 dL_law_678 (by first | omega | (simp only [sA_same, sA_s, ud_s, Int.reduceEq, if_true, if_false, ite_true, ite_false, ↓reduceIte, and_true, true_and, eq_self, Int.add_zero, Int.reduceAdd]; omega) | (simp (disch := omega) only [sA_same, sA_ne, ud_eq, ud_ne, Int.add_zero, Int.reduceAdd]; omega)) rfl ?_
        refine v_iaload (n := 680) (lz := (L : Int)) xB_232 dL_law_679 (sh_sc _ _ _) rfl (by first | omega | (simp only [sA_same, sA_s, ud_s, Int.reduceEq, if_true, if_false, ite_true, ite_false, ↓reduceIte, and_true, true_and, eq_self, Int.add_zero, Int.reduceAdd]; omega) | (simp (disch := omega) only [sA_same, sA_ne, ud_eq, ud_ne, Int.add_zero, Int.reduceAdd]; omega)) rfl ?_
        (try rw [e3, hm3])
        refine v_call_v (n := 683) xB_232 dL_law_680 xO_232 iv_17_81 rfl (sh_81 _ _ _) rfl rfl rfl ?_
        refine hM _ _ (by omega)  (fun m2 hI2 => ?_)
        refine v_ic_eq_y (t := 1457) xB_232 dL_law_683 (by decide) rfl (by first | omega | (simp only [sA_same, sA_s, ud_s, Int.reduceEq, if_true, if_false, ite_true, ite_false, ↓reduceIte, and_true, true_and, eq_self, Int.add_zero, Int.reduceAdd]; omega) | (simp (disch := omega) only [sA_same, sA_ne, ud_eq, ud_ne, Int.add_zero, Int.reduceAdd]; omega)) ?_
        refine v_iinc3 (n := 1460) xB_232 dL_law_1457 rfl (by first | omega | (simp only [sA_same, sA_s, ud_s, Int.reduceEq, if_true, if_false, ite_true, ite_false, ↓reduceIte, and_true, true_and, eq_self, Int.add_zero, Int.reduceAdd]; omega) | (simp (disch := omega) only [sA_same, sA_ne, ud_eq, ud_ne, Int.add_zero, Int.reduceAdd]; omega)) rfl ?_
        refine v_goto (t := 18) xB_232 dL_law_1460 (by decide) rfl ?_
        first | exact ih _ _ _ hI2 (by omega) (by omega) (by omega) | exact ih _ _ _ hI (by omega) (by omega) (by omega)
      refine ts_c (lo' := 17) rfl (fun g18 => ?_) (fun g18 => ?_)
      · refine jm_go (t := 688) (by decide) rfl ?_
        refine v_aload_n (n := 689) xB_232 dL_law_688 rfl rfl ?_
        refine v_aload_n (n := 690) xB_232 dL_law_689 rfl rfl ?_
        refine v_iload_n (n := 691) xB_232 dL_law_690 rfl rfl ?_
        refine v_iconst (n := 692) xB_232 dL_law_691 ⟨by decide, by decide⟩ rfl ?_
        refine v_iadd (n := 693) xB_232 dL_law_692 (by first | omega | (simp only [sA_same, sA_s, ud_s, Int.reduceEq, if_true, if_false, ite_true, ite_false, ↓reduceIte, and_true, true_and, eq_self, Int.add_zero, Int.reduceAdd]; omega) | (simp (disch := omega) only [sA_same, sA_ne, ud_eq, ud_ne, Int.add_zero, Int.reduceAdd]; omega)) rfl ?_
        refine v_iaload (n := 694) (lz := (L : Int)) xB_232 dL_law_693 (sh_sc _ _ _) rfl (by first | omega | (simp only [sA_same, sA_s, ud_s, Int.reduceEq, if_true, if_false, ite_true, ite_false, ↓reduceIte, and_true, true_and, eq_self, Int.add_zero, Int.reduceAdd]; omega) | (simp (disch := omega) only [sA_same, sA_ne, ud_eq, ud_ne, Int.add_zero, Int.reduceAdd]; omega)) rfl ?_
        refine v_aload_n (n := 695) xB_232 dL_law_694 rfl rfl ?_
        refine v_iload_n (n := 696) xB_232 dL_law_695 rfl rfl ?_
        refine v_iconst (n := 697) xB_232 dL_law_696 ⟨by decide, by decide⟩ rfl ?_
        refine v_iadd (n := 698) xB_232 dL_law_697 (by first | omega | (simp only [sA_same, sA_s, ud_s, Int.reduceEq, if_true, if_false, ite_true, ite_false, ↓reduceIte, and_true, true_and, eq_self, Int.add_zero, Int.reduceAdd]; omega) | (simp (disch := omega) only [sA_same, sA_ne, ud_eq, ud_ne, Int.add_zero, Int.reduceAdd]; omega)) rfl ?_
        refine v_iaload (n := 699) (lz := (L : Int)) xB_232 dL_law_698 (sh_sc _ _ _) rfl (by first | omega | (simp only [sA_same, sA_s, ud_s, Int.reduceEq, if_true, if_false, ite_true, ite_false, ↓reduceIte, and_true, true_and, eq_self, Int.add_zero, Int.reduceAdd]; omega) | (simp (disch := omega) only [sA_same, sA_ne, ud_eq, ud_ne, Int.add_zero, Int.reduceAdd]; omega)) rfl ?_
        refine v_aload_n (n := 700) xB_232 dL_law_699 rfl rfl ?_
        refine v_iload_n (n := 701) xB_232 dL_law_700 rfl rfl ?_
        refine v_iconst (n := 702) xB_232 dL_law_701 ⟨by decide, by decide⟩ rfl ?_
        refine v_iadd (n := 703) xB_232 dL_law_702 (by first | omega | (simp only [sA_same, sA_s, ud_s, Int.reduceEq, if_true, if_false, ite_true, ite_false, ↓reduceIte, and_true, true_and, eq_self, Int.add_zero, Int.reduceAdd]; omega) | (simp (disch := omega) only [sA_same, sA_ne, ud_eq, ud_ne, Int.add_zero, Int.reduceAdd]; omega)) rfl ?_
        refine v_iaload (n := 704) (lz := (L : Int)) xB_232 dL_law_703 (sh_sc _ _ _) rfl (by first | omega | (simp only [sA_same, sA_s, ud_s, Int.reduceEq, if_true, if_false, ite_true, ite_false, ↓reduceIte, and_true, true_and, eq_self, Int.add_zero, Int.reduceAdd]; omega) | (simp (disch := omega) only [sA_same, sA_ne, ud_eq, ud_ne, Int.add_zero, Int.reduceAdd]; omega)) rfl ?_
        (try rw [hm3])
        refine v_call_v (n := 707) xB_232 dL_law_704 xO_232 iv_17_82 rfl (sh_0 _ _ _) rfl rfl rfl ?_
        refine rd_I (p_twice m0 L _ _ _) (by omega) hI (fun v m1 dy1 hng hM => ?_)
        have e3 : m1 (-3) = m (-3) := hng (-3) (by omega)
        refine v_aload_n (n := 708) xB_232 dL_law_707 rfl rfl ?_
        refine v_aload_n (n := 709) xB_232 dL_law_708 rfl rfl ?_
        refine v_iload_n (n := 710) xB_232 dL_law_709 rfl rfl ?_
        refine v_iconst (n := 711) xB_232 dL_law_710 ⟨by decide, by decide⟩ rfl ?_
        refine v_iadd (n := 712) xB_232 dL_law_711 (by first | omega | (simp only [sA_same, sA_s, ud_s, Int.reduceEq, if_true, if_false, ite_true, ite_false, ↓reduceIte, and_true, true_and, eq_self, Int.add_zero, Int.reduceAdd]; omega) | (simp (disch := omega) only [sA_same, sA_ne, ud_eq, ud_ne, Int.add_zero, Int.reduceAdd]; omega)) rfl ?_
        refine v_iaload (n := 713) (lz := (L : Int)) xB_232 dL_law_712 (sh_sc _ _ _) rfl (by first | omega | (simp only [sA_same, sA_s, ud_s, Int.reduceEq, if_true, if_false, ite_true, ite_false, ↓reduceIte, and_true, true_and, eq_self, Int.add_zero, Int.reduceAdd]; omega) | (simp (disch := omega) only [sA_same, sA_ne, ud_eq, ud_ne, Int.add_zero, Int.reduceAdd]; omega)) rfl ?_
        refine v_aload_n (n := 714) xB_232 dL_law_713 rfl rfl ?_
        refine v_iload_n (n := 715) xB_232 dL_law_714 rfl rfl ?_
        refine v_iconst (n := 716) xB_232 dL_law_715 ⟨by decide, by decide⟩ rfl ?_
        refine v_iadd (n := 717) xB_232 dL_law_716 (by first | omega | (simp only [sA_same, sA_s, ud_s, Int.reduceEq, if_true, if_false, ite_true, ite_false, ↓reduceIte, and_true, true_and, eq_self, Int.add_zero, Int.reduceAdd]; omega) | (simp (disch := omega) only [sA_same, sA_ne, ud_eq, ud_ne, Int.add_zero, Int.reduceAdd]; omega)) rfl ?_
        refine v_iaload (n := 718) (lz := (L : Int)) xB_232 dL_law_717 (sh_sc _ _ _) rfl (by first | omega | (simp only [sA_same, sA_s, ud_s, Int.reduceEq, if_true, if_false, ite_true, ite_false, ↓reduceIte, and_true, true_and, eq_self, Int.add_zero, Int.reduceAdd]; omega) | (simp (disch := omega) only [sA_same, sA_ne, ud_eq, ud_ne, Int.add_zero, Int.reduceAdd]; omega)) rfl ?_
        refine v_aload_n (n := 719) xB_232 dL_law_718 rfl rfl ?_
        refine v_iload_n (n := 720) xB_232 dL_law_719 rfl rfl ?_
        refine v_iconst (n := 721) xB_232 dL_law_720 ⟨by decide, by decide⟩ rfl ?_
        refine v_iadd (n := 722) xB_232 dL_law_721 (by first | omega | (simp only [sA_same, sA_s, ud_s, Int.reduceEq, if_true, if_false, ite_true, ite_false, ↓reduceIte, and_true, true_and, eq_self, Int.add_zero, Int.reduceAdd]; omega) | (simp (disch := omega) only [sA_same, sA_ne, ud_eq, ud_ne, Int.add_zero, Int.reduceAdd]; omega)) rfl ?_
        refine v_iaload (n := 723) (lz := (L : Int)) xB_232 dL_law_722 (sh_sc _ _ _) rfl (by first | omega | (simp only [sA_same, sA_s, ud_s, Int.reduceEq, if_true, if_false, ite_true, ite_false, ↓reduceIte, and_true, true_and, eq_self, Int.add_zero, Int.reduceAdd]; omega) | (simp (disch := omega) only [sA_same, sA_ne, ud_eq, ud_ne, Int.add_zero, Int.reduceAdd]; omega)) rfl ?_
        (try rw [e3, hm3])
        refine v_call_v (n := 726) xB_232 dL_law_723 xO_232 iv_17_85 rfl (sh_81 _ _ _) rfl rfl rfl ?_
        refine hM _ _ (by omega)  (fun m2 hI2 => ?_)
        refine v_ic_eq_y (t := 1457) xB_232 dL_law_726 (by decide) rfl (by first | omega | (simp only [sA_same, sA_s, ud_s, Int.reduceEq, if_true, if_false, ite_true, ite_false, ↓reduceIte, and_true, true_and, eq_self, Int.add_zero, Int.reduceAdd]; omega) | (simp (disch := omega) only [sA_same, sA_ne, ud_eq, ud_ne, Int.add_zero, Int.reduceAdd]; omega)) ?_
        refine v_iinc3 (n := 1460) xB_232 dL_law_1457 rfl (by first | omega | (simp only [sA_same, sA_s, ud_s, Int.reduceEq, if_true, if_false, ite_true, ite_false, ↓reduceIte, and_true, true_and, eq_self, Int.add_zero, Int.reduceAdd]; omega) | (simp (disch := omega) only [sA_same, sA_ne, ud_eq, ud_ne, Int.add_zero, Int.reduceAdd]; omega)) rfl ?_
        refine v_goto (t := 18) xB_232 dL_law_1460 (by decide) rfl ?_
        first | exact ih _ _ _ hI2 (by omega) (by omega) (by omega) | exact ih _ _ _ hI (by omega) (by omega) (by omega)
      refine ts_c (lo' := 18) rfl (fun g19 => ?_) (fun g19 => ?_)
      · refine jm_go (t := 731) (by decide) rfl ?_
        refine v_aload_n (n := 732) xB_232 dL_law_731 rfl rfl ?_
        refine v_aload_n (n := 733) xB_232 dL_law_732 rfl rfl ?_
        refine v_iload_n (n := 734) xB_232 dL_law_733 rfl rfl ?_
        refine v_iconst (n := 735) xB_232 dL_law_734 ⟨by decide, by decide⟩ rfl ?_
        refine v_iadd (n := 736) xB_232 dL_law_735 (by first | omega | (simp only [sA_same, sA_s, ud_s, Int.reduceEq, if_true, if_false, ite_true, ite_false, ↓reduceIte, and_true, true_and, eq_self, Int.add_zero, Int.reduceAdd]; omega) | (simp (disch := omega) only [sA_same, sA_ne, ud_eq, ud_ne, Int.add_zero, Int.reduceAdd]; omega)) rfl ?_
        refine v_iaload (n := 737) (lz := (L : Int)) xB_232 dL_law_736 (sh_sc _ _ _) rfl (by first | omega | (simp only [sA_same, sA_s, ud_s, Int.reduceEq, if_true, if_false, ite_true, ite_false, ↓reduceIte, and_true, true_and, eq_self, Int.add_zero, Int.reduceAdd]; omega) | (simp (disch := omega) only [sA_same, sA_ne, ud_eq, ud_ne, Int.add_zero, Int.reduceAdd]; omega)) rfl ?_
        (try rw [hm3])
        refine v_call_v (n := 740) xB_232 dL_law_737 xO_232 iv_17_86 rfl (sh_0 _ _ _) rfl rfl rfl ?_
        refine rd_I (p_find m0 L _) (by omega) hI (fun v m1 dy1 hng hM => ?_)
        have e3 : m1 (-3) = m (-3) := hng (-3) (by omega)
        refine v_aload_n (n := 741) xB_232 dL_law_740 rfl rfl ?_
        refine v_aload_n (n := 742) xB_232 dL_law_741 rfl rfl ?_
        refine v_iload_n (n := 743) xB_232 dL_law_742 rfl rfl ?_
        refine v_iconst (n := 744) xB_232 dL_law_743 ⟨by decide, by decide⟩ rfl ?_
        refine v_iadd (n := 745) xB_232 dL_law_744 (by first | omega | (simp only [sA_same, sA_s, ud_s, Int.reduceEq, if_true, if_false, ite_true, ite_false, ↓reduceIte, and_true, true_and, eq_self, Int.add_zero, Int.reduceAdd]; omega) | (simp (disch := omega) only [sA_same, sA_ne, ud_eq, ud_ne, Int.add_zero, Int.reduceAdd]; omega)) rfl ?_
        refine v_iaload (n := 746) (lz := (L : Int)) xB_232 dL_law_745 (sh_sc _ _ _) rfl (by first | omega | (simp only [sA_same, sA_s, ud_s, Int.reduceEq, if_true, if_false, ite_true, ite_false, ↓reduceIte, and_true, true_and, eq_self, Int.add_zero, Int.reduceAdd]; omega) | (simp (disch := omega) only [sA_same, sA_ne, ud_eq, ud_ne, Int.add_zero, Int.reduceAdd]; omega)) rfl ?_
        (try rw [e3, hm3])
        refine v_call_v (n := 749) xB_232 dL_law_746 xO_232 iv_17_89 rfl (sh_81 _ _ _) rfl rfl rfl ?_
        refine hM _ _ (by omega)  (fun m2 hI2 => ?_)
        refine v_ic_eq_y (t := 1457) xB_232 dL_law_749 (by decide) rfl (by first | omega | (simp only [sA_same, sA_s, ud_s, Int.reduceEq, if_true, if_false, ite_true, ite_false, ↓reduceIte, and_true, true_and, eq_self, Int.add_zero, Int.reduceAdd]; omega) | (simp (disch := omega) only [sA_same, sA_ne, ud_eq, ud_ne, Int.add_zero, Int.reduceAdd]; omega)) ?_
        refine v_iinc3 (n := 1460) xB_232 dL_law_1457 rfl (by first | omega | (simp only [sA_same, sA_s, ud_s, Int.reduceEq, if_true, if_false, ite_true, ite_false, ↓reduceIte, and_true, true_and, eq_self, Int.add_zero, Int.reduceAdd]; omega) | (simp (disch := omega) only [sA_same, sA_ne, ud_eq, ud_ne, Int.add_zero, Int.reduceAdd]; omega)) rfl ?_
        refine v_goto (t := 18) xB_232 dL_law_1460 (by decide) rfl ?_
        first | exact ih _ _ _ hI2 (by omega) (by omega) (by omega) | exact ih _ _ _ hI (by omega) (by omega) (by omega)
      refine ts_c (lo' := 19) rfl (fun g20 => ?_) (fun g20 => ?_)
      · refine jm_go (t := 754) (by decide) rfl ?_
        refine v_aload_n (n := 755) xB_232 dL_law_754 rfl rfl ?_
        refine v_aload_n (n := 756) xB_232 dL_law_755 rfl rfl ?_
        refine v_iload_n (n := 757) xB_232 dL_law_756 rfl rfl ?_
        refine v_iconst (n := 758) xB_232 dL_law_757 ⟨by decide, by decide⟩ rfl ?_
        refine v_iadd (n := 759) xB_232 dL_law_758 (by first | omega | (simp only [sA_same, sA_s, ud_s, Int.reduceEq, if_true, if_false, ite_true, ite_false, ↓reduceIte, and_true, true_and, eq_self, Int.add_zero, Int.reduceAdd]; omega) | (simp (disch := omega) only [sA_same, sA_ne, ud_eq, ud_ne, Int.add_zero, Int.reduceAdd]; omega)) rfl ?_
        refine v_iaload (n := 760) (lz := (L : Int)) xB_232 dL_law_759 (sh_sc _ _ _) rfl (by first | omega | (simp only [sA_same, sA_s, ud_s, Int.reduceEq, if_true, if_false, ite_true, ite_false, ↓reduceIte, and_true, true_and, eq_self, Int.add_zero, Int.reduceAdd]; omega) | (simp (disch := omega) only [sA_same, sA_ne, ud_eq, ud_ne, Int.add_zero, Int.reduceAdd]; omega)) rfl ?_
        refine v_aload_n (n := 761) xB_232 dL_law_760 rfl rfl ?_
        refine v_iload_n (n := 762) xB_232 dL_law_761 rfl rfl ?_
        refine v_iconst (n := 763) xB_232 dL_law_762 ⟨by decide, by decide⟩ rfl ?_
        refine v_iadd (n := 764) xB_232 dL_law_763 (by first | omega | (simp only [sA_same, sA_s, ud_s, Int.reduceEq, if_true, if_false, ite_true, ite_false, ↓reduceIte, and_true, true_and, eq_self, Int.add_zero, Int.reduceAdd]; omega) | (simp (disch := omega) only [sA_same, sA_ne, ud_eq, ud_ne, Int.add_zero, Int.reduceAdd]; omega)) rfl ?_
        refine v_iaload (n := 765) (lz := (L : Int)) xB_232 dL_law_764 (sh_sc _ _ _) rfl (by first | omega | (simp only [sA_same, sA_s, ud_s, Int.reduceEq, if_true, if_false, ite_true, ite_false, ↓reduceIte, and_true, true_and, eq_self, Int.add_zero, Int.reduceAdd]; omega) | (simp (disch := omega) only [sA_same, sA_ne, ud_eq, ud_ne, Int.add_zero, Int.reduceAdd]; omega)) rfl ?_
        refine v_aload_n (n := 766) xB_232 dL_law_765 rfl rfl ?_
        refine v_iload_n (n := 767) xB_232 dL_law_766 rfl rfl ?_
        refine v_iconst (n := 768) xB_232 dL_law_767 ⟨by decide, by decide⟩ rfl ?_
        refine v_iadd (n := 769) xB_232 dL_law_768 (by first | omega | (simp only [sA_same, sA_s, ud_s, Int.reduceEq, if_true, if_false, ite_true, ite_false, ↓reduceIte, and_true, true_and, eq_self, Int.add_zero, Int.reduceAdd]; omega) | (simp (disch := omega) only [sA_same, sA_ne, ud_eq, ud_ne, Int.add_zero, Int.reduceAdd]; omega)) rfl ?_
        refine v_iaload (n := 770) (lz := (L : Int)) xB_232 dL_law_769 (sh_sc _ _ _) rfl (by first | omega | (simp only [sA_same, sA_s, ud_s, Int.reduceEq, if_true, if_false, ite_true, ite_false, ↓reduceIte, and_true, true_and, eq_self, Int.add_zero, Int.reduceAdd]; omega) | (simp (disch := omega) only [sA_same, sA_ne, ud_eq, ud_ne, Int.add_zero, Int.reduceAdd]; omega)) rfl ?_
        (try rw [hm3])
        refine v_call_v (n := 773) xB_232 dL_law_770 xO_232 iv_17_90 rfl (sh_0 _ _ _) rfl rfl rfl ?_
        refine rd_I (p_see m0 L _ _ _) (by omega) hI (fun v m1 dy1 hng hM => ?_)
        have e3 : m1 (-3) = m (-3) := hng (-3) (by omega)
        refine v_aload_n (n := 774) xB_232 dL_law_773 rfl rfl ?_
        refine v_aload_n (n := 775) xB_232 dL_law_774 rfl rfl ?_
        refine v_iload_n (n := 776) xB_232 dL_law_775 rfl rfl ?_
        refine v_iconst (n := 777) xB_232 dL_law_776 ⟨by decide, by decide⟩ rfl ?_
        refine v_iadd (n := 778) xB_232 dL_law_777 (by first | omega | (simp only [sA_same, sA_s, ud_s, Int.reduceEq, if_true, if_false, ite_true, ite_false, ↓reduceIte, and_true, true_and, eq_self, Int.add_zero, Int.reduceAdd]; omega) | (simp (disch := omega) only [sA_same, sA_ne, ud_eq, ud_ne, Int.add_zero, Int.reduceAdd]; omega)) rfl ?_
        refine v_iaload (n := 779) (lz := (L : Int)) xB_232 dL_law_778 (sh_sc _ _ _) rfl (by first | omega | (simp only [sA_same, sA_s, ud_s, Int.reduceEq, if_true, if_false, ite_true, ite_false, ↓reduceIte, and_true, true_and, eq_self, Int.add_zero, Int.reduceAdd]; omega) | (simp (disch := omega) only [sA_same, sA_ne, ud_eq, ud_ne, Int.add_zero, Int.reduceAdd]; omega)) rfl ?_
        refine v_aload_n (n := 780) xB_232 dL_law_779 rfl rfl ?_
        refine v_iload_n (n := 781) xB_232 dL_law_780 rfl rfl ?_
        refine v_iconst (n := 782) xB_232 dL_law_781 ⟨by decide, by decide⟩ rfl ?_
        refine v_iadd (n := 783) xB_232 dL_law_782 (by first | omega | (simp only [sA_same, sA_s, ud_s, Int.reduceEq, if_true, if_false, ite_true, ite_false, ↓reduceIte, and_true, true_and, eq_self, Int.add_zero, Int.reduceAdd]; omega) | (simp (disch := omega) only [sA_same, sA_ne, ud_eq, ud_ne, Int.add_zero, Int.reduceAdd]; omega)) rfl ?_
        refine v_iaload (n := 784) (lz := (L : Int)) xB_232 dL_law_783 (sh_sc _ _ _) rfl (by first | omega | (simp only [sA_same, sA_s, ud_s, Int.reduceEq, if_true, if_false, ite_true, ite_false, ↓reduceIte, and_true, true_and, eq_self, Int.add_zero, Int.reduceAdd]; omega) | (simp (disch := omega) only [sA_same, sA_ne, ud_eq, ud_ne, Int.add_zero, Int.reduceAdd]; omega)) rfl ?_
        refine v_aload_n (n := 785) xB_232 dL_law_784 rfl rfl ?_
        refine v_iload_n (n := 786) xB_232 dL_law_785 rfl rfl ?_
        refine v_iconst (n := 787) xB_232 dL_law_786 ⟨by decide, by decide⟩ rfl ?_
        refine v_iadd (n := 788) xB_232 dL_law_787 (by first | omega | (simp only [sA_same, sA_s, ud_s, Int.reduceEq, if_true, if_false, ite_true, ite_false, ↓reduceIte, and_true, true_and, eq_self, Int.add_zero, Int.reduceAdd]; omega) | (simp (disch := omega) only [sA_same, sA_ne, ud_eq, ud_ne, Int.add_zero, Int.reduceAdd]; omega)) rfl ?_
        refine v_iaload (n := 789) (lz := (L : Int)) xB_232 dL_law_788 (sh_sc _ _ _) rfl (by first | omega | (simp only [sA_same, sA_s, ud_s, Int.reduceEq, if_true, if_false, ite_true, ite_false, ↓reduceIte, and_true, true_and, eq_self, Int.add_zero, Int.reduceAdd]; omega) | (simp (disch := omega) only [sA_same, sA_ne, ud_eq, ud_ne, Int.add_zero, Int.reduceAdd]; omega)) rfl ?_
        (try rw [e3, hm3])
        refine v_call_v (n := 792) xB_232 dL_law_789 xO_232 iv_17_93 rfl (sh_81 _ _ _) rfl rfl rfl ?_
        refine hM _ _ (by omega)  (fun m2 hI2 => ?_)
        refine v_ic_eq_y (t := 1457) xB_232 dL_law_792 (by decide) rfl (by first | omega | (simp only [sA_same, sA_s, ud_s, Int.reduceEq, if_true, if_false, ite_true, ite_false, ↓reduceIte, and_true, true_and, eq_self, Int.add_zero, Int.reduceAdd]; omega) | (simp (disch := omega) only [sA_same, sA_ne, ud_eq, ud_ne, Int.add_zero, Int.reduceAdd]; omega)) ?_
        refine v_iinc3 (n := 1460) xB_232 dL_law_1457 rfl (by first | omega | (simp only [sA_same, sA_s, ud_s, Int.reduceEq, if_true, if_false, ite_true, ite_false, ↓reduceIte, and_true, true_and, eq_self, Int.add_zero, Int.reduceAdd]; omega) | (simp (disch := omega) only [sA_same, sA_ne, ud_eq, ud_ne, Int.add_zero, Int.reduceAdd]; omega)) rfl ?_
        refine v_goto (t := 18) xB_232 dL_law_1460 (by decide) rfl ?_
        first | exact ih _ _ _ hI2 (by omega) (by omega) (by omega) | exact ih _ _ _ hI (by omega) (by omega) (by omega)
      refine ts_c (lo' := 20) rfl (fun g21 => ?_) (fun g21 => ?_)
      · refine jm_go (t := 797) (by decide) rfl ?_
        refine v_aload_n (n := 798) xB_232 dL_law_797 rfl rfl ?_
        refine v_aload_n (n := 799) xB_232 dL_law_798 rfl rfl ?_
        refine v_iload_n (n := 800) xB_232 dL_law_799 rfl rfl ?_
        refine v_iconst (n := 801) xB_232 dL_law_800 ⟨by decide, by decide⟩ rfl ?_
        refine v_iadd (n := 802) xB_232 dL_law_801 (by first | omega | (simp only [sA_same, sA_s, ud_s, Int.reduceEq, if_true, if_false, ite_true, ite_false, ↓reduceIte, and_true, true_and, eq_self, Int.add_zero, Int.reduceAdd]; omega) | (simp (disch := omega) only [sA_same, sA_ne, ud_eq, ud_ne, Int.add_zero, Int.reduceAdd]; omega)) rfl ?_
        refine v_iaload (n := 803) (lz := (L : Int)) xB_232 dL_law_802 (sh_sc _ _ _) rfl (by first | omega | (simp only [sA_same, sA_s, ud_s, Int.reduceEq, if_true, if_false, ite_true, ite_false, ↓reduceIte, and_true, true_and, eq_self, Int.add_zero, Int.reduceAdd]; omega) | (simp (disch := omega) only [sA_same, sA_ne, ud_eq, ud_ne, Int.add_zero, Int.reduceAdd]; omega)) rfl ?_
        (try rw [hm3])
        refine v_call_v (n := 806) xB_232 dL_law_803 xO_232 iv_17_94 rfl (sh_0 _ _ _) rfl rfl rfl ?_
        refine rd_I (p_which m0 L _) (by omega) hI (fun v m1 dy1 hng hM => ?_)
        have e3 : m1 (-3) = m (-3) := hng (-3) (by omega)
        refine v_aload_n (n := 807) xB_232 dL_law_806 rfl rfl ?_
        refine v_aload_n (n := 808) xB_232 dL_law_807 rfl rfl ?_
        refine v_iload_n (n := 809) xB_232 dL_law_808 rfl rfl ?_
        refine v_iconst (n := 810) xB_232 dL_law_809 ⟨by decide, by decide⟩ rfl ?_
        refine v_iadd (n := 811) xB_232 dL_law_810 (by first | omega | (simp only [sA_same, sA_s, ud_s, Int.reduceEq, if_true, if_false, ite_true, ite_false, ↓reduceIte, and_true, true_and, eq_self, Int.add_zero, Int.reduceAdd]; omega) | (simp (disch := omega) only [sA_same, sA_ne, ud_eq, ud_ne, Int.add_zero, Int.reduceAdd]; omega)) rfl ?_
        refine v_iaload (n := 812) (lz := (L : Int)) xB_232 dL_law_811 (sh_sc _ _ _) rfl (by first | omega | (simp only [sA_same, sA_s, ud_s, Int.reduceEq, if_true, if_false, ite_true, ite_false, ↓reduceIte, and_true, true_and, eq_self, Int.add_zero, Int.reduceAdd]; omega) | (simp (disch := omega) only [sA_same, sA_ne, ud_eq, ud_ne, Int.add_zero, Int.reduceAdd]; omega)) rfl ?_
        (try rw [e3, hm3])
        refine v_call_v (n := 815) xB_232 dL_law_812 xO_232 iv_17_97 rfl (sh_81 _ _ _) rfl rfl rfl ?_
        refine hM _ _ (by omega)  (fun m2 hI2 => ?_)
        refine v_ic_eq_y (t := 1457) xB_232 dL_law_815 (by decide) rfl (by first | omega | (simp only [sA_same, sA_s, ud_s, Int.reduceEq, if_true, if_false, ite_true, ite_false, ↓reduceIte, and_true, true_and, eq_self, Int.add_zero, Int.reduceAdd]; omega) | (simp (disch := omega) only [sA_same, sA_ne, ud_eq, ud_ne, Int.add_zero, Int.reduceAdd]; omega)) ?_
        refine v_iinc3 (n := 1460) xB_232 dL_law_1457 rfl (by first | omega | (simp only [sA_same, sA_s, ud_s, Int.reduceEq, if_true, if_false, ite_true, ite_false, ↓reduceIte, and_true, true_and, eq_self, Int.add_zero, Int.reduceAdd]; omega) | (simp (disch := omega) only [sA_same, sA_ne, ud_eq, ud_ne, Int.add_zero, Int.reduceAdd]; omega)) rfl ?_
        refine v_goto (t := 18) xB_232 dL_law_1460 (by decide) rfl ?_
        first | exact ih _ _ _ hI2 (by omega) (by omega) (by omega) | exact ih _ _ _ hI (by omega) (by omega) (by omega)
      refine ts_c (lo' := 21) rfl (fun g22 => ?_) (fun g22 => ?_)
      · refine jm_go (t := 820) (by decide) rfl ?_
        refine v_aload_n (n := 821) xB_232 dL_law_820 rfl rfl ?_
        refine v_aload_n (n := 822) xB_232 dL_law_821 rfl rfl ?_
        refine v_iload_n (n := 823) xB_232 dL_law_822 rfl rfl ?_
        refine v_iconst (n := 824) xB_232 dL_law_823 ⟨by decide, by decide⟩ rfl ?_
        refine v_iadd (n := 825) xB_232 dL_law_824 (by first | omega | (simp only [sA_same, sA_s, ud_s, Int.reduceEq, if_true, if_false, ite_true, ite_false, ↓reduceIte, and_true, true_and, eq_self, Int.add_zero, Int.reduceAdd]; omega) | (simp (disch := omega) only [sA_same, sA_ne, ud_eq, ud_ne, Int.add_zero, Int.reduceAdd]; omega)) rfl ?_
        refine v_iaload (n := 826) (lz := (L : Int)) xB_232 dL_law_825 (sh_sc _ _ _) rfl (by first | omega | (simp only [sA_same, sA_s, ud_s, Int.reduceEq, if_true, if_false, ite_true, ite_false, ↓reduceIte, and_true, true_and, eq_self, Int.add_zero, Int.reduceAdd]; omega) | (simp (disch := omega) only [sA_same, sA_ne, ud_eq, ud_ne, Int.add_zero, Int.reduceAdd]; omega)) rfl ?_
        refine v_aload_n (n := 827) xB_232 dL_law_826 rfl rfl ?_
        refine v_iload_n (n := 828) xB_232 dL_law_827 rfl rfl ?_
        refine v_iconst (n := 829) xB_232 dL_law_828 ⟨by decide, by decide⟩ rfl ?_
        refine v_iadd (n := 830) xB_232 dL_law_829 (by first | omega | (simp only [sA_same, sA_s, ud_s, Int.reduceEq, if_true, if_false, ite_true, ite_false, ↓reduceIte, and_true, true_and, eq_self, Int.add_zero, Int.reduceAdd]; omega) | (simp (disch := omega) only [sA_same, sA_ne, ud_eq, ud_ne, Int.add_zero, Int.reduceAdd]; omega)) rfl ?_
        refine v_iaload (n := 831) (lz := (L : Int)) xB_232 dL_law_830 (sh_sc _ _ _) rfl (by first | omega | (simp only [sA_same, sA_s, ud_s, Int.reduceEq, if_true, if_false, ite_true, ite_false, ↓reduceIte, and_true, true_and, eq_self, Int.add_zero, Int.reduceAdd]; omega) | (simp (disch := omega) only [sA_same, sA_ne, ud_eq, ud_ne, Int.add_zero, Int.reduceAdd]; omega)) rfl ?_
        refine v_aload_n (n := 832) xB_232 dL_law_831 rfl rfl ?_
        refine v_iload_n (n := 833) xB_232 dL_law_832 rfl rfl ?_
        refine v_iconst (n := 834) xB_232 dL_law_833 ⟨by decide, by decide⟩ rfl ?_
        refine v_iadd (n := 835) xB_232 dL_law_834 (by first | omega | (simp only [sA_same, sA_s, ud_s, Int.reduceEq, if_true, if_false, ite_true, ite_false, ↓reduceIte, and_true, true_and, eq_self, Int.add_zero, Int.reduceAdd]; omega) | (simp (disch := omega) only [sA_same, sA_ne, ud_eq, ud_ne, Int.add_zero, Int.reduceAdd]; omega)) rfl ?_
        refine v_iaload (n := 836) (lz := (L : Int)) xB_232 dL_law_835 (sh_sc _ _ _) rfl (by first | omega | (simp only [sA_same, sA_s, ud_s, Int.reduceEq, if_true, if_false, ite_true, ite_false, ↓reduceIte, and_true, true_and, eq_self, Int.add_zero, Int.reduceAdd]; omega) | (simp (disch := omega) only [sA_same, sA_ne, ud_eq, ud_ne, Int.add_zero, Int.reduceAdd]; omega)) rfl ?_
        (try rw [hm3])
        refine v_call_v (n := 839) xB_232 dL_law_836 xO_232 iv_17_98 rfl (sh_0 _ _ _) rfl rfl rfl ?_
        refine rd_I (p_can m0 L _ _ _) (by omega) hI (fun v m1 dy1 hng hM => ?_)
        have e3 : m1 (-3) = m (-3) := hng (-3) (by omega)
        refine v_aload_n (n := 840) xB_232 dL_law_839 rfl rfl ?_
        refine v_aload_n (n := 841) xB_232 dL_law_840 rfl rfl ?_
        refine v_iload_n (n := 842) xB_232 dL_law_841 rfl rfl ?_
        refine v_iconst (n := 843) xB_232 dL_law_842 ⟨by decide, by decide⟩ rfl ?_
        refine v_iadd (n := 844) xB_232 dL_law_843 (by first | omega | (simp only [sA_same, sA_s, ud_s, Int.reduceEq, if_true, if_false, ite_true, ite_false, ↓reduceIte, and_true, true_and, eq_self, Int.add_zero, Int.reduceAdd]; omega) | (simp (disch := omega) only [sA_same, sA_ne, ud_eq, ud_ne, Int.add_zero, Int.reduceAdd]; omega)) rfl ?_
        refine v_iaload (n := 845) (lz := (L : Int)) xB_232 dL_law_844 (sh_sc _ _ _) rfl (by first | omega | (simp only [sA_same, sA_s, ud_s, Int.reduceEq, if_true, if_false, ite_true, ite_false, ↓reduceIte, and_true, true_and, eq_self, Int.add_zero, Int.reduceAdd]; omega) | (simp (disch := omega) only [sA_same, sA_ne, ud_eq, ud_ne, Int.add_zero, Int.reduceAdd]; omega)) rfl ?_
        refine v_aload_n (n := 846) xB_232 dL_law_845 rfl rfl ?_
        refine v_iload_n (n := 847) xB_232 dL_law_846 rfl rfl ?_
        refine v_iconst (n := 848) xB_232 dL_law_847 ⟨by decide, by decide⟩ rfl ?_
        refine v_iadd (n := 849) xB_232 dL_law_848 (by first | omega | (simp only [sA_same, sA_s, ud_s, Int.reduceEq, if_true, if_false, ite_true, ite_false, ↓reduceIte, and_true, true_and, eq_self, Int.add_zero, Int.reduceAdd]; omega) | (simp (disch := omega) only [sA_same, sA_ne, ud_eq, ud_ne, Int.add_zero, Int.reduceAdd]; omega)) rfl ?_
        refine v_iaload (n := 850) (lz := (L : Int)) xB_232 dL_law_849 (sh_sc _ _ _) rfl (by first | omega | (simp only [sA_same, sA_s, ud_s, Int.reduceEq, if_true, if_false, ite_true, ite_false, ↓reduceIte, and_true, true_and, eq_self, Int.add_zero, Int.reduceAdd]; omega) | (simp (disch := omega) only [sA_same, sA_ne, ud_eq, ud_ne, Int.add_zero, Int.reduceAdd]; omega)) rfl ?_
        refine v_aload_n (n := 851) xB_232 dL_law_850 rfl rfl ?_
        refine v_iload_n (n := 852) xB_232 dL_law_851 rfl rfl ?_
        refine v_iconst (n := 853) xB_232 dL_law_852 ⟨by decide, by decide⟩ rfl ?_
        refine v_iadd (n := 854) xB_232 dL_law_853 (by first | omega | (simp only [sA_same, sA_s, ud_s, Int.reduceEq, if_true, if_false, ite_true, ite_false, ↓reduceIte, and_true, true_and, eq_self, Int.add_zero, Int.reduceAdd]; omega) | (simp (disch := omega) only [sA_same, sA_ne, ud_eq, ud_ne, Int.add_zero, Int.reduceAdd]; omega)) rfl ?_
        refine v_iaload (n := 855) (lz := (L : Int)) xB_232 dL_law_854 (sh_sc _ _ _) rfl (by first | omega | (simp only [sA_same, sA_s, ud_s, Int.reduceEq, if_true, if_false, ite_true, ite_false, ↓reduceIte, and_true, true_and, eq_self, Int.add_zero, Int.reduceAdd]; omega) | (simp (disch := omega) only [sA_same, sA_ne, ud_eq, ud_ne, Int.add_zero, Int.reduceAdd]; omega)) rfl ?_
        (try rw [e3, hm3])
        refine v_call_v (n := 858) xB_232 dL_law_855 xO_232 iv_17_101 rfl (sh_81 _ _ _) rfl rfl rfl ?_
        refine hM _ _ (by omega)  (fun m2 hI2 => ?_)
        refine v_ic_eq_y (t := 1457) xB_232 dL_law_858 (by decide) rfl (by first | omega | (simp only [sA_same, sA_s, ud_s, Int.reduceEq, if_true, if_false, ite_true, ite_false, ↓reduceIte, and_true, true_and, eq_self, Int.add_zero, Int.reduceAdd]; omega) | (simp (disch := omega) only [sA_same, sA_ne, ud_eq, ud_ne, Int.add_zero, Int.reduceAdd]; omega)) ?_
        refine v_iinc3 (n := 1460) xB_232 dL_law_1457 rfl (by first | omega | (simp only [sA_same, sA_s, ud_s, Int.reduceEq, if_true, if_false, ite_true, ite_false, ↓reduceIte, and_true, true_and, eq_self, Int.add_zero, Int.reduceAdd]; omega) | (simp (disch := omega) only [sA_same, sA_ne, ud_eq, ud_ne, Int.add_zero, Int.reduceAdd]; omega)) rfl ?_
        refine v_goto (t := 18) xB_232 dL_law_1460 (by decide) rfl ?_
        first | exact ih _ _ _ hI2 (by omega) (by omega) (by omega) | exact ih _ _ _ hI (by omega) (by omega) (by omega)
      refine ts_c (lo' := 22) rfl (fun g23 => ?_) (fun g23 => ?_)
      · refine jm_go (t := 863) (by decide) rfl ?_
        refine v_aload_n (n := 864) xB_232 dL_law_863 rfl rfl ?_
        refine v_aload_n (n := 865) xB_232 dL_law_864 rfl rfl ?_
        refine v_iload_n (n := 866) xB_232 dL_law_865 rfl rfl ?_
        refine v_iconst (n := 867) xB_232 dL_law_866 ⟨by decide, by decide⟩ rfl ?_
        refine v_iadd (n := 868) xB_232 dL_law_867 (by first | omega | (simp only [sA_same, sA_s, ud_s, Int.reduceEq, if_true, if_false, ite_true, ite_false, ↓reduceIte, and_true, true_and, eq_self, Int.add_zero, Int.reduceAdd]; omega) | (simp (disch := omega) only [sA_same, sA_ne, ud_eq, ud_ne, Int.add_zero, Int.reduceAdd]; omega)) rfl ?_
        refine v_iaload (n := 869) (lz := (L : Int)) xB_232 dL_law_868 (sh_sc _ _ _) rfl (by first | omega | (simp only [sA_same, sA_s, ud_s, Int.reduceEq, if_true, if_false, ite_true, ite_false, ↓reduceIte, and_true, true_and, eq_self, Int.add_zero, Int.reduceAdd]; omega) | (simp (disch := omega) only [sA_same, sA_ne, ud_eq, ud_ne, Int.add_zero, Int.reduceAdd]; omega)) rfl ?_
        refine v_aload_n (n := 870) xB_232 dL_law_869 rfl rfl ?_
        refine v_iload_n (n := 871) xB_232 dL_law_870 rfl rfl ?_
        refine v_iconst (n := 872) xB_232 dL_law_871 ⟨by decide, by decide⟩ rfl ?_
        refine v_iadd (n := 873) xB_232 dL_law_872 (by first | omega | (simp only [sA_same, sA_s, ud_s, Int.reduceEq, if_true, if_false, ite_true, ite_false, ↓reduceIte, and_true, true_and, eq_self, Int.add_zero, Int.reduceAdd]; omega) | (simp (disch := omega) only [sA_same, sA_ne, ud_eq, ud_ne, Int.add_zero, Int.reduceAdd]; omega)) rfl ?_
        refine v_iaload (n := 874) (lz := (L : Int)) xB_232 dL_law_873 (sh_sc _ _ _) rfl (by first | omega | (simp only [sA_same, sA_s, ud_s, Int.reduceEq, if_true, if_false, ite_true, ite_false, ↓reduceIte, and_true, true_and, eq_self, Int.add_zero, Int.reduceAdd]; omega) | (simp (disch := omega) only [sA_same, sA_ne, ud_eq, ud_ne, Int.add_zero, Int.reduceAdd]; omega)) rfl ?_
        refine v_aload_n (n := 875) xB_232 dL_law_874 rfl rfl ?_
        refine v_iload_n (n := 876) xB_232 dL_law_875 rfl rfl ?_
        refine v_iconst (n := 877) xB_232 dL_law_876 ⟨by decide, by decide⟩ rfl ?_
        refine v_iadd (n := 878) xB_232 dL_law_877 (by first | omega | (simp only [sA_same, sA_s, ud_s, Int.reduceEq, if_true, if_false, ite_true, ite_false, ↓reduceIte, and_true, true_and, eq_self, Int.add_zero, Int.reduceAdd]; omega) | (simp (disch := omega) only [sA_same, sA_ne, ud_eq, ud_ne, Int.add_zero, Int.reduceAdd]; omega)) rfl ?_
        refine v_iaload (n := 879) (lz := (L : Int)) xB_232 dL_law_878 (sh_sc _ _ _) rfl (by first | omega | (simp only [sA_same, sA_s, ud_s, Int.reduceEq, if_true, if_false, ite_true, ite_false, ↓reduceIte, and_true, true_and, eq_self, Int.add_zero, Int.reduceAdd]; omega) | (simp (disch := omega) only [sA_same, sA_ne, ud_eq, ud_ne, Int.add_zero, Int.reduceAdd]; omega)) rfl ?_
        (try rw [hm3])
        refine v_call_v (n := 882) xB_232 dL_law_879 xO_232 iv_17_102 rfl (sh_0 _ _ _) rfl rfl rfl ?_
        refine rd_L (p_odds m0 L _ _ _) (by omega) hI (fun v m1 dy1 hng hM => ?_)
        have e3 : m1 (-3) = m (-3) := hng (-3) (by omega)
        refine v_aload_n (n := 883) xB_232 dL_law_882 rfl rfl ?_
        refine v_aload_n (n := 884) xB_232 dL_law_883 rfl rfl ?_
        refine v_iload_n (n := 885) xB_232 dL_law_884 rfl rfl ?_
        refine v_iconst (n := 886) xB_232 dL_law_885 ⟨by decide, by decide⟩ rfl ?_
        refine v_iadd (n := 887) xB_232 dL_law_886 (by first | omega | (simp only [sA_same, sA_s, ud_s, Int.reduceEq, if_true, if_false, ite_true, ite_false, ↓reduceIte, and_true, true_and, eq_self, Int.add_zero, Int.reduceAdd]; omega) | (simp (disch := omega) only [sA_same, sA_ne, ud_eq, ud_ne, Int.add_zero, Int.reduceAdd]; omega)) rfl ?_
        refine v_iaload (n := 888) (lz := (L : Int)) xB_232 dL_law_887 (sh_sc _ _ _) rfl (by first | omega | (simp only [sA_same, sA_s, ud_s, Int.reduceEq, if_true, if_false, ite_true, ite_false, ↓reduceIte, and_true, true_and, eq_self, Int.add_zero, Int.reduceAdd]; omega) | (simp (disch := omega) only [sA_same, sA_ne, ud_eq, ud_ne, Int.add_zero, Int.reduceAdd]; omega)) rfl ?_
        refine v_aload_n (n := 889) xB_232 dL_law_888 rfl rfl ?_
        refine v_iload_n (n := 890) xB_232 dL_law_889 rfl rfl ?_
        refine v_iconst (n := 891) xB_232 dL_law_890 ⟨by decide, by decide⟩ rfl ?_
        refine v_iadd (n := 892) xB_232 dL_law_891 (by first | omega | (simp only [sA_same, sA_s, ud_s, Int.reduceEq, if_true, if_false, ite_true, ite_false, ↓reduceIte, and_true, true_and, eq_self, Int.add_zero, Int.reduceAdd]; omega) | (simp (disch := omega) only [sA_same, sA_ne, ud_eq, ud_ne, Int.add_zero, Int.reduceAdd]; omega)) rfl ?_
        refine v_iaload (n := 893) (lz := (L : Int)) xB_232 dL_law_892 (sh_sc _ _ _) rfl (by first | omega | (simp only [sA_same, sA_s, ud_s, Int.reduceEq, if_true, if_false, ite_true, ite_false, ↓reduceIte, and_true, true_and, eq_self, Int.add_zero, Int.reduceAdd]; omega) | (simp (disch := omega) only [sA_same, sA_ne, ud_eq, ud_ne, Int.add_zero, Int.reduceAdd]; omega)) rfl ?_
        refine v_aload_n (n := 894) xB_232 dL_law_893 rfl rfl ?_
        refine v_iload_n (n := 895) xB_232 dL_law_894 rfl rfl ?_
        refine v_iconst (n := 896) xB_232 dL_law_895 ⟨by decide, by decide⟩ rfl ?_
        refine v_iadd (n := 897) xB_232 dL_law_896 (by first | omega | (simp only [sA_same, sA_s, ud_s, Int.reduceEq, if_true, if_false, ite_true, ite_false, ↓reduceIte, and_true, true_and, eq_self, Int.add_zero, Int.reduceAdd]; omega) | (simp (disch := omega) only [sA_same, sA_ne, ud_eq, ud_ne, Int.add_zero, Int.reduceAdd]; omega)) rfl ?_
        refine v_iaload (n := 898) (lz := (L : Int)) xB_232 dL_law_897 (sh_sc _ _ _) rfl (by first | omega | (simp only [sA_same, sA_s, ud_s, Int.reduceEq, if_true, if_false, ite_true, ite_false, ↓reduceIte, and_true, true_and, eq_self, Int.add_zero, Int.reduceAdd]; omega) | (simp (disch := omega) only [sA_same, sA_ne, ud_eq, ud_ne, Int.add_zero, Int.reduceAdd]; omega)) rfl ?_
        (try rw [e3, hm3])
        refine v_call_v (n := 901) xB_232 dL_law_898 xO_232 iv_17_106 rfl (sh_81 _ _ _) rfl rfl rfl ?_
        refine hM _ _ (by omega)  (fun m2 hI2 => ?_)
        refine v_lcmp (n := 902) xB_232 dL_law_901 rfl ?_
        refine v_if_eq_y (t := 1457) xB_232 dL_law_902 (by decide) rfl (lc_vv v) ?_
        refine v_iinc3 (n := 1460) xB_232 dL_law_1457 rfl (by first | omega | (simp only [sA_same, sA_s, ud_s, Int.reduceEq, if_true, if_false, ite_true, ite_false, ↓reduceIte, and_true, true_and, eq_self, Int.add_zero, Int.reduceAdd]; omega) | (simp (disch := omega) only [sA_same, sA_ne, ud_eq, ud_ne, Int.add_zero, Int.reduceAdd]; omega)) rfl ?_
        refine v_goto (t := 18) xB_232 dL_law_1460 (by decide) rfl ?_
        first | exact ih _ _ _ hI2 (by omega) (by omega) (by omega) | exact ih _ _ _ hI (by omega) (by omega) (by omega)
      refine ts_c (lo' := 23) rfl (fun g24 => ?_) (fun g24 => ?_)
      · refine jm_go (t := 907) (by decide) rfl ?_
        refine v_aload_n (n := 908) xB_232 dL_law_907 rfl rfl ?_
        refine v_aload_n (n := 909) xB_232 dL_law_908 rfl rfl ?_
        refine v_iload_n (n := 910) xB_232 dL_law_909 rfl rfl ?_
        refine v_iconst (n := 911) xB_232 dL_law_910 ⟨by decide, by decide⟩ rfl ?_
        refine v_iadd (n := 912) xB_232 dL_law_911 (by first | omega | (simp only [sA_same, sA_s, ud_s, Int.reduceEq, if_true, if_false, ite_true, ite_false, ↓reduceIte, and_true, true_and, eq_self, Int.add_zero, Int.reduceAdd]; omega) | (simp (disch := omega) only [sA_same, sA_ne, ud_eq, ud_ne, Int.add_zero, Int.reduceAdd]; omega)) rfl ?_
        refine v_iaload (n := 913) (lz := (L : Int)) xB_232 dL_law_912 (sh_sc _ _ _) rfl (by first | omega | (simp only [sA_same, sA_s, ud_s, Int.reduceEq, if_true, if_false, ite_true, ite_false, ↓reduceIte, and_true, true_and, eq_self, Int.add_zero, Int.reduceAdd]; omega) | (simp (disch := omega) only [sA_same, sA_ne, ud_eq, ud_ne, Int.add_zero, Int.reduceAdd]; omega)) rfl ?_
        refine v_aload_n (n := 914) xB_232 dL_law_913 rfl rfl ?_
        refine v_iload_n (n := 915) xB_232 dL_law_914 rfl rfl ?_
        refine v_iconst (n := 916) xB_232 dL_law_915 ⟨by decide, by decide⟩ rfl ?_
        refine v_iadd (n := 917) xB_232 dL_law_916 (by first | omega | (simp only [sA_same, sA_s, ud_s, Int.reduceEq, if_true, if_false, ite_true, ite_false, ↓reduceIte, and_true, true_and, eq_self, Int.add_zero, Int.reduceAdd]; omega) | (simp (disch := omega) only [sA_same, sA_ne, ud_eq, ud_ne, Int.add_zero, Int.reduceAdd]; omega)) rfl ?_
        refine v_iaload (n := 918) (lz := (L : Int)) xB_232 dL_law_917 (sh_sc _ _ _) rfl (by first | omega | (simp only [sA_same, sA_s, ud_s, Int.reduceEq, if_true, if_false, ite_true, ite_false, ↓reduceIte, and_true, true_and, eq_self, Int.add_zero, Int.reduceAdd]; omega) | (simp (disch := omega) only [sA_same, sA_ne, ud_eq, ud_ne, Int.add_zero, Int.reduceAdd]; omega)) rfl ?_
        (try rw [hm3])
        refine v_call_v (n := 921) xB_232 dL_law_918 xO_232 iv_17_107 rfl (sh_0 _ _ _) rfl rfl rfl ?_
        refine rd_L (p_mean m0 L _ _) (by omega) hI (fun v m1 dy1 hng hM => ?_)
        have e3 : m1 (-3) = m (-3) := hng (-3) (by omega)
        refine v_aload_n (n := 922) xB_232 dL_law_921 rfl rfl ?_
        refine v_aload_n (n := 923) xB_232 dL_law_922 rfl rfl ?_
        refine v_iload_n (n := 924) xB_232 dL_law_923 rfl rfl ?_
        refine v_iconst (n := 925) xB_232 dL_law_924 ⟨by decide, by decide⟩ rfl ?_
        refine v_iadd (n := 926) xB_232 dL_law_925 (by first | omega | (simp only [sA_same, sA_s, ud_s, Int.reduceEq, if_true, if_false, ite_true, ite_false, ↓reduceIte, and_true, true_and, eq_self, Int.add_zero, Int.reduceAdd]; omega) | (simp (disch := omega) only [sA_same, sA_ne, ud_eq, ud_ne, Int.add_zero, Int.reduceAdd]; omega)) rfl ?_
        refine v_iaload (n := 927) (lz := (L : Int)) xB_232 dL_law_926 (sh_sc _ _ _) rfl (by first | omega | (simp only [sA_same, sA_s, ud_s, Int.reduceEq, if_true, if_false, ite_true, ite_false, ↓reduceIte, and_true, true_and, eq_self, Int.add_zero, Int.reduceAdd]; omega) | (simp (disch := omega) only [sA_same, sA_ne, ud_eq, ud_ne, Int.add_zero, Int.reduceAdd]; omega)) rfl ?_
        refine v_aload_n (n := 928) xB_232 dL_law_927 rfl rfl ?_
        refine v_iload_n (n := 929) xB_232 dL_law_928 rfl rfl ?_
        refine v_iconst (n := 930) xB_232 dL_law_929 ⟨by decide, by decide⟩ rfl ?_
        refine v_iadd (n := 931) xB_232 dL_law_930 (by first | omega | (simp only [sA_same, sA_s, ud_s, Int.reduceEq, if_true, if_false, ite_true, ite_false, ↓reduceIte, and_true, true_and, eq_self, Int.add_zero, Int.reduceAdd]; omega) | (simp (disch := omega) only [sA_same, sA_ne, ud_eq, ud_ne, Int.add_zero, Int.reduceAdd]; omega)) rfl ?_
        refine v_iaload (n := 932) (lz := (L : Int)) xB_232 dL_law_931 (sh_sc _ _ _) rfl (by first | omega | (simp only [sA_same, sA_s, ud_s, Int.reduceEq, if_true, if_false, ite_true, ite_false, ↓reduceIte, and_true, true_and, eq_self, Int.add_zero, Int.reduceAdd]; omega) | (simp (disch := omega) only [sA_same, sA_ne, ud_eq, ud_ne, Int.add_zero, Int.reduceAdd]; omega)) rfl ?_
        (try rw [e3, hm3])
        refine v_call_v (n := 935) xB_232 dL_law_932 xO_232 iv_17_111 rfl (sh_81 _ _ _) rfl rfl rfl ?_
        refine hM _ _ (by omega)  (fun m2 hI2 => ?_)
        refine v_lcmp (n := 936) xB_232 dL_law_935 rfl ?_
        refine v_if_eq_y (t := 1457) xB_232 dL_law_936 (by decide) rfl (lc_vv v) ?_
        refine v_iinc3 (n := 1460) xB_232 dL_law_1457 rfl (by first | omega | (simp only [sA_same, sA_s, ud_s, Int.reduceEq, if_true, if_false, ite_true, ite_false, ↓reduceIte, and_true, true_and, eq_self, Int.add_zero, Int.reduceAdd]; omega) | (simp (disch := omega) only [sA_same, sA_ne, ud_eq, ud_ne, Int.add_zero, Int.reduceAdd]; omega)) rfl ?_
        refine v_goto (t := 18) xB_232 dL_law_1460 (by decide) rfl ?_
        first | exact ih _ _ _ hI2 (by omega) (by omega) (by omega) | exact ih _ _ _ hI (by omega) (by omega) (by omega)
      refine ts_c (lo' := 24) rfl (fun g25 => ?_) (fun g25 => ?_)
      · refine jm_go (t := 941) (by decide) rfl ?_
        refine v_aload_n (n := 942) xB_232 dL_law_941 rfl rfl ?_
        refine v_aload_n (n := 943) xB_232 dL_law_942 rfl rfl ?_
        refine v_iload_n (n := 944) xB_232 dL_law_943 rfl rfl ?_
        refine v_iconst (n := 945) xB_232 dL_law_944 ⟨by decide, by decide⟩ rfl ?_
        refine v_iadd (n := 946) xB_232 dL_law_945 (by first | omega | (simp only [sA_same, sA_s, ud_s, Int.reduceEq, if_true, if_false, ite_true, ite_false, ↓reduceIte, and_true, true_and, eq_self, Int.add_zero, Int.reduceAdd]; omega) | (simp (disch := omega) only [sA_same, sA_ne, ud_eq, ud_ne, Int.add_zero, Int.reduceAdd]; omega)) rfl ?_
        refine v_iaload (n := 947) (lz := (L : Int)) xB_232 dL_law_946 (sh_sc _ _ _) rfl (by first | omega | (simp only [sA_same, sA_s, ud_s, Int.reduceEq, if_true, if_false, ite_true, ite_false, ↓reduceIte, and_true, true_and, eq_self, Int.add_zero, Int.reduceAdd]; omega) | (simp (disch := omega) only [sA_same, sA_ne, ud_eq, ud_ne, Int.add_zero, Int.reduceAdd]; omega)) rfl ?_
        refine v_aload_n (n := 948) xB_232 dL_law_947 rfl rfl ?_
        refine v_iload_n (n := 949) xB_232 dL_law_948 rfl rfl ?_
        refine v_iconst (n := 950) xB_232 dL_law_949 ⟨by decide, by decide⟩ rfl ?_
        refine v_iadd (n := 951) xB_232 dL_law_950 (by first | omega | (simp only [sA_same, sA_s, ud_s, Int.reduceEq, if_true, if_false, ite_true, ite_false, ↓reduceIte, and_true, true_and, eq_self, Int.add_zero, Int.reduceAdd]; omega) | (simp (disch := omega) only [sA_same, sA_ne, ud_eq, ud_ne, Int.add_zero, Int.reduceAdd]; omega)) rfl ?_
        refine v_iaload (n := 952) (lz := (L : Int)) xB_232 dL_law_951 (sh_sc _ _ _) rfl (by first | omega | (simp only [sA_same, sA_s, ud_s, Int.reduceEq, if_true, if_false, ite_true, ite_false, ↓reduceIte, and_true, true_and, eq_self, Int.add_zero, Int.reduceAdd]; omega) | (simp (disch := omega) only [sA_same, sA_ne, ud_eq, ud_ne, Int.add_zero, Int.reduceAdd]; omega)) rfl ?_
        refine v_aload_n (n := 953) xB_232 dL_law_952 rfl rfl ?_
        refine v_iload_n (n := 954) xB_232 dL_law_953 rfl rfl ?_
        refine v_iconst (n := 955) xB_232 dL_law_954 ⟨by decide, by decide⟩ rfl ?_
        refine v_iadd (n := 956) xB_232 dL_law_955 (by first | omega | (simp only [sA_same, sA_s, ud_s, Int.reduceEq, if_true, if_false, ite_true, ite_false, ↓reduceIte, and_true, true_and, eq_self, Int.add_zero, Int.reduceAdd]; omega) | (simp (disch := omega) only [sA_same, sA_ne, ud_eq, ud_ne, Int.add_zero, Int.reduceAdd]; omega)) rfl ?_
        refine v_iaload (n := 957) (lz := (L : Int)) xB_232 dL_law_956 (sh_sc _ _ _) rfl (by first | omega | (simp only [sA_same, sA_s, ud_s, Int.reduceEq, if_true, if_false, ite_true, ite_false, ↓reduceIte, and_true, true_and, eq_self, Int.add_zero, Int.reduceAdd]; omega) | (simp (disch := omega) only [sA_same, sA_ne, ud_eq, ud_ne, Int.add_zero, Int.reduceAdd]; omega)) rfl ?_
        (try rw [hm3])
        refine v_call_v (n := 960) xB_232 dL_law_957 xO_232 iv_17_112 rfl (sh_0 _ _ _) rfl rfl rfl ?_
        refine rd_I (p_plan m0 L _ _ _) (by omega) hI (fun v m1 dy1 hng hM => ?_)
        have e3 : m1 (-3) = m (-3) := hng (-3) (by omega)
        refine v_aload_n (n := 961) xB_232 dL_law_960 rfl rfl ?_
        refine v_aload_n (n := 962) xB_232 dL_law_961 rfl rfl ?_
        refine v_iload_n (n := 963) xB_232 dL_law_962 rfl rfl ?_
        refine v_iconst (n := 964) xB_232 dL_law_963 ⟨by decide, by decide⟩ rfl ?_
        refine v_iadd (n := 965) xB_232 dL_law_964 (by first | omega | (simp only [sA_same, sA_s, ud_s, Int.reduceEq, if_true, if_false, ite_true, ite_false, ↓reduceIte, and_true, true_and, eq_self, Int.add_zero, Int.reduceAdd]; omega) | (simp (disch := omega) only [sA_same, sA_ne, ud_eq, ud_ne, Int.add_zero, Int.reduceAdd]; omega)) rfl ?_
        refine v_iaload (n := 966) (lz := (L : Int)) xB_232 dL_law_965 (sh_sc _ _ _) rfl (by first | omega | (simp only [sA_same, sA_s, ud_s, Int.reduceEq, if_true, if_false, ite_true, ite_false, ↓reduceIte, and_true, true_and, eq_self, Int.add_zero, Int.reduceAdd]; omega) | (simp (disch := omega) only [sA_same, sA_ne, ud_eq, ud_ne, Int.add_zero, Int.reduceAdd]; omega)) rfl ?_
        refine v_aload_n (n := 967) xB_232 dL_law_966 rfl rfl ?_
        refine v_iload_n (n := 968) xB_232 dL_law_967 rfl rfl ?_
        refine v_iconst (n := 969) xB_232 dL_law_968 ⟨by decide, by decide⟩ rfl ?_
        refine v_iadd (n := 970) xB_232 dL_law_969 (by first | omega | (simp only [sA_same, sA_s, ud_s, Int.reduceEq, if_true, if_false, ite_true, ite_false, ↓reduceIte, and_true, true_and, eq_self, Int.add_zero, Int.reduceAdd]; omega) | (simp (disch := omega) only [sA_same, sA_ne, ud_eq, ud_ne, Int.add_zero, Int.reduceAdd]; omega)) rfl ?_
        refine v_iaload (n := 971) (lz := (L : Int)) xB_232 dL_law_970 (sh_sc _ _ _) rfl (by first | omega | (simp only [sA_same, sA_s, ud_s, Int.reduceEq, if_true, if_false, ite_true, ite_false, ↓reduceIte, and_true, true_and, eq_self, Int.add_zero, Int.reduceAdd]; omega) | (simp (disch := omega) only [sA_same, sA_ne, ud_eq, ud_ne, Int.add_zero, Int.reduceAdd]; omega)) rfl ?_
        refine v_aload_n (n := 972) xB_232 dL_law_971 rfl rfl ?_
        refine v_iload_n (n := 973) xB_232 dL_law_972 rfl rfl ?_
        refine v_iconst (n := 974) xB_232 dL_law_973 ⟨by decide, by decide⟩ rfl ?_
        refine v_iadd (n := 975) xB_232 dL_law_974 (by first | omega | (simp only [sA_same, sA_s, ud_s, Int.reduceEq, if_true, if_false, ite_true, ite_false, ↓reduceIte, and_true, true_and, eq_self, Int.add_zero, Int.reduceAdd]; omega) | (simp (disch := omega) only [sA_same, sA_ne, ud_eq, ud_ne, Int.add_zero, Int.reduceAdd]; omega)) rfl ?_
        refine v_iaload (n := 976) (lz := (L : Int)) xB_232 dL_law_975 (sh_sc _ _ _) rfl (by first | omega | (simp only [sA_same, sA_s, ud_s, Int.reduceEq, if_true, if_false, ite_true, ite_false, ↓reduceIte, and_true, true_and, eq_self, Int.add_zero, Int.reduceAdd]; omega) | (simp (disch := omega) only [sA_same, sA_ne, ud_eq, ud_ne, Int.add_zero, Int.reduceAdd]; omega)) rfl ?_
        (try rw [e3, hm3])
        refine v_call_v (n := 979) xB_232 dL_law_976 xO_232 iv_17_115 rfl (sh_81 _ _ _) rfl rfl rfl ?_
        refine hM _ _ (by omega)  (fun m2 hI2 => ?_)
        refine v_ic_eq_y (t := 1457) xB_232 dL_law_979 (by decide) rfl (by first | omega | (simp only [sA_same, sA_s, ud_s, Int.reduceEq, if_true, if_false, ite_true, ite_false, ↓reduceIte, and_true, true_and, eq_self, Int.add_zero, Int.reduceAdd]; omega) | (simp (disch := omega) only [sA_same, sA_ne, ud_eq, ud_ne, Int.add_zero, Int.reduceAdd]; omega)) ?_
        refine v_iinc3 (n := 1460) xB_232 dL_law_1457 rfl (by first | omega | (simp only [sA_same, sA_s, ud_s, Int.reduceEq, if_true, if_false, ite_true, ite_false, ↓reduceIte, and_true, true_and, eq_self, Int.add_zero, Int.reduceAdd]; omega) | (simp (disch := omega) only [sA_same, sA_ne, ud_eq, ud_ne, Int.add_zero, Int.reduceAdd]; omega)) rfl ?_
        refine v_goto (t := 18) xB_232 dL_law_1460 (by decide) rfl ?_
        first | exact ih _ _ _ hI2 (by omega) (by omega) (by omega) | exact ih _ _ _ hI (by omega) (by omega) (by omega)
      refine ts_c (lo' := 25) rfl (fun g26 => ?_) (fun g26 => ?_)
      · refine jm_go (t := 984) (by decide) rfl ?_
        refine v_aload_n (n := 985) xB_232 dL_law_984 rfl rfl ?_
        refine v_aload_n (n := 986) xB_232 dL_law_985 rfl rfl ?_
        refine v_iload_n (n := 987) xB_232 dL_law_986 rfl rfl ?_
        refine v_iconst (n := 988) xB_232 dL_law_987 ⟨by decide, by decide⟩ rfl ?_
        refine v_iadd (n := 989) xB_232 dL_law_988 (by first | omega | (simp only [sA_same, sA_s, ud_s, Int.reduceEq, if_true, if_false, ite_true, ite_false, ↓reduceIte, and_true, true_and, eq_self, Int.add_zero, Int.reduceAdd]; omega) | (simp (disch := omega) only [sA_same, sA_ne, ud_eq, ud_ne, Int.add_zero, Int.reduceAdd]; omega)) rfl ?_
        refine v_iaload (n := 990) (lz := (L : Int)) xB_232 dL_law_989 (sh_sc _ _ _) rfl (by first | omega | (simp only [sA_same, sA_s, ud_s, Int.reduceEq, if_true, if_false, ite_true, ite_false, ↓reduceIte, and_true, true_and, eq_self, Int.add_zero, Int.reduceAdd]; omega) | (simp (disch := omega) only [sA_same, sA_ne, ud_eq, ud_ne, Int.add_zero, Int.reduceAdd]; omega)) rfl ?_
        (try rw [hm3])
        refine v_call_v (n := 993) xB_232 dL_law_990 xO_232 iv_17_116 rfl (sh_0 _ _ _) rfl rfl rfl ?_
        refine rd_I (p_done m0 L _) (by omega) hI (fun v m1 dy1 hng hM => ?_)
        have e3 : m1 (-3) = m (-3) := hng (-3) (by omega)
        refine v_aload_n (n := 994) xB_232 dL_law_993 rfl rfl ?_
        refine v_aload_n (n := 995) xB_232 dL_law_994 rfl rfl ?_
        refine v_iload_n (n := 996) xB_232 dL_law_995 rfl rfl ?_
        refine v_iconst (n := 997) xB_232 dL_law_996 ⟨by decide, by decide⟩ rfl ?_
        refine v_iadd (n := 998) xB_232 dL_law_997 (by first | omega | (simp only [sA_same, sA_s, ud_s, Int.reduceEq, if_true, if_false, ite_true, ite_false, ↓reduceIte, and_true, true_and, eq_self, Int.add_zero, Int.reduceAdd]; omega) | (simp (disch := omega) only [sA_same, sA_ne, ud_eq, ud_ne, Int.add_zero, Int.reduceAdd]; omega)) rfl ?_
        refine v_iaload (n := 999) (lz := (L : Int)) xB_232 dL_law_998 (sh_sc _ _ _) rfl (by first | omega | (simp only [sA_same, sA_s, ud_s, Int.reduceEq, if_true, if_false, ite_true, ite_false, ↓reduceIte, and_true, true_and, eq_self, Int.add_zero, Int.reduceAdd]; omega) | (simp (disch := omega) only [sA_same, sA_ne, ud_eq, ud_ne, Int.add_zero, Int.reduceAdd]; omega)) rfl ?_
        (try rw [e3, hm3])
        refine v_call_v (n := 1002) xB_232 dL_law_999 xO_232 iv_17_119 rfl (sh_81 _ _ _) rfl rfl rfl ?_
        refine hM _ _ (by omega)  (fun m2 hI2 => ?_)
        refine v_ic_eq_y (t := 1457) xB_232 dL_law_1002 (by decide) rfl (by first | omega | (simp only [sA_same, sA_s, ud_s, Int.reduceEq, if_true, if_false, ite_true, ite_false, ↓reduceIte, and_true, true_and, eq_self, Int.add_zero, Int.reduceAdd]; omega) | (simp (disch := omega) only [sA_same, sA_ne, ud_eq, ud_ne, Int.add_zero, Int.reduceAdd]; omega)) ?_
        refine v_iinc3 (n := 1460) xB_232 dL_law_1457 rfl (by first | omega | (simp only [sA_same, sA_s, ud_s, Int.reduceEq, if_true, if_false, ite_true, ite_false, ↓reduceIte, and_true, true_and, eq_self, Int.add_zero, Int.reduceAdd]; omega) | (simp (disch := omega) only [sA_same, sA_ne, ud_eq, ud_ne, Int.add_zero, Int.reduceAdd]; omega)) rfl ?_
        refine v_goto (t := 18) xB_232 dL_law_1460 (by decide) rfl ?_
        first | exact ih _ _ _ hI2 (by omega) (by omega) (by omega) | exact ih _ _ _ hI (by omega) (by omega) (by omega)
      refine ts_c (lo' := 26) rfl (fun g27 => ?_) (fun g27 => ?_)
      · refine jm_go (t := 1007) (by decide) rfl ?_
        refine v_aload_n (n := 1008) xB_232 dL_law_1007 rfl rfl ?_
        refine v_aload_n (n := 1009) xB_232 dL_law_1008 rfl rfl ?_
        refine v_iload_n (n := 1010) xB_232 dL_law_1009 rfl rfl ?_
        refine v_iconst (n := 1011) xB_232 dL_law_1010 ⟨by decide, by decide⟩ rfl ?_
        refine v_iadd (n := 1012) xB_232 dL_law_1011 (by first | omega | (simp only [sA_same, sA_s, ud_s, Int.reduceEq, if_true, if_false, ite_true, ite_false, ↓reduceIte, and_true, true_and, eq_self, Int.add_zero, Int.reduceAdd]; omega) | (simp (disch := omega) only [sA_same, sA_ne, ud_eq, ud_ne, Int.add_zero, Int.reduceAdd]; omega)) rfl ?_
        refine v_iaload (n := 1013) (lz := (L : Int)) xB_232 dL_law_1012 (sh_sc _ _ _) rfl (by first | omega | (simp only [sA_same, sA_s, ud_s, Int.reduceEq, if_true, if_false, ite_true, ite_false, ↓reduceIte, and_true, true_and, eq_self, Int.add_zero, Int.reduceAdd]; omega) | (simp (disch := omega) only [sA_same, sA_ne, ud_eq, ud_ne, Int.add_zero, Int.reduceAdd]; omega)) rfl ?_
        refine v_aload_n (n := 1014) xB_232 dL_law_1013 rfl rfl ?_
        refine v_iload_n (n := 1015) xB_232 dL_law_1014 rfl rfl ?_
        refine v_iconst (n := 1016) xB_232 dL_law_1015 ⟨by decide, by decide⟩ rfl ?_
        refine v_iadd (n := 1017) xB_232 dL_law_1016 (by first | omega | (simp only [sA_same, sA_s, ud_s, Int.reduceEq, if_true, if_false, ite_true, ite_false, ↓reduceIte, and_true, true_and, eq_self, Int.add_zero, Int.reduceAdd]; omega) | (simp (disch := omega) only [sA_same, sA_ne, ud_eq, ud_ne, Int.add_zero, Int.reduceAdd]; omega)) rfl ?_
        refine v_iaload (n := 1018) (lz := (L : Int)) xB_232 dL_law_1017 (sh_sc _ _ _) rfl (by first | omega | (simp only [sA_same, sA_s, ud_s, Int.reduceEq, if_true, if_false, ite_true, ite_false, ↓reduceIte, and_true, true_and, eq_self, Int.add_zero, Int.reduceAdd]; omega) | (simp (disch := omega) only [sA_same, sA_ne, ud_eq, ud_ne, Int.add_zero, Int.reduceAdd]; omega)) rfl ?_
        refine v_aload_n (n := 1019) xB_232 dL_law_1018 rfl rfl ?_
        refine v_iload_n (n := 1020) xB_232 dL_law_1019 rfl rfl ?_
        refine v_iconst (n := 1021) xB_232 dL_law_1020 ⟨by decide, by decide⟩ rfl ?_
        refine v_iadd (n := 1022) xB_232 dL_law_1021 (by first | omega | (simp only [sA_same, sA_s, ud_s, Int.reduceEq, if_true, if_false, ite_true, ite_false, ↓reduceIte, and_true, true_and, eq_self, Int.add_zero, Int.reduceAdd]; omega) | (simp (disch := omega) only [sA_same, sA_ne, ud_eq, ud_ne, Int.add_zero, Int.reduceAdd]; omega)) rfl ?_
        refine v_iaload (n := 1023) (lz := (L : Int)) xB_232 dL_law_1022 (sh_sc _ _ _) rfl (by first | omega | (simp only [sA_same, sA_s, ud_s, Int.reduceEq, if_true, if_false, ite_true, ite_false, ↓reduceIte, and_true, true_and, eq_self, Int.add_zero, Int.reduceAdd]; omega) | (simp (disch := omega) only [sA_same, sA_ne, ud_eq, ud_ne, Int.add_zero, Int.reduceAdd]; omega)) rfl ?_
        (try rw [hm3])
        refine v_call_v (n := 1026) xB_232 dL_law_1023 xO_232 iv_17_120 rfl (sh_0 _ _ _) rfl rfl rfl ?_
        refine rd_I (p_book m0 L _ _ _) (by omega) hI (fun v m1 dy1 hng hM => ?_)
        have e3 : m1 (-3) = m (-3) := hng (-3) (by omega)
        refine v_aload_n (n := 1027) xB_232 dL_law_1026 rfl rfl ?_
        refine v_aload_n (n := 1028) xB_232 dL_law_1027 rfl rfl ?_
        refine v_iload_n (n := 1029) xB_232 dL_law_1028 rfl rfl ?_
        refine v_iconst (n := 1030) xB_232 dL_law_1029 ⟨by decide, by decide⟩ rfl ?_
        refine v_iadd (n := 1031) xB_232 dL_law_1030 (by first | omega | (simp only [sA_same, sA_s, ud_s, Int.reduceEq, if_true, if_false, ite_true, ite_false, ↓reduceIte, and_true, true_and, eq_self, Int.add_zero, Int.reduceAdd]; omega) | (simp (disch := omega) only [sA_same, sA_ne, ud_eq, ud_ne, Int.add_zero, Int.reduceAdd]; omega)) rfl ?_
        refine v_iaload (n := 1032) (lz := (L : Int)) xB_232 dL_law_1031 (sh_sc _ _ _) rfl (by first | omega | (simp only [sA_same, sA_s, ud_s, Int.reduceEq, if_true, if_false, ite_true, ite_false, ↓reduceIte, and_true, true_and, eq_self, Int.add_zero, Int.reduceAdd]; omega) | (simp (disch := omega) only [sA_same, sA_ne, ud_eq, ud_ne, Int.add_zero, Int.reduceAdd]; omega)) rfl ?_
        refine v_aload_n (n := 1033) xB_232 dL_law_1032 rfl rfl ?_
        refine v_iload_n (n := 1034) xB_232 dL_law_1033 rfl rfl ?_
        refine v_iconst (n := 1035) xB_232 dL_law_1034 ⟨by decide, by decide⟩ rfl ?_
        refine v_iadd (n := 1036) xB_232 dL_law_1035 (by first | omega | (simp only [sA_same, sA_s, ud_s, Int.reduceEq, if_true, if_false, ite_true, ite_false, ↓reduceIte, and_true, true_and, eq_self, Int.add_zero, Int.reduceAdd]; omega) | (simp (disch := omega) only [sA_same, sA_ne, ud_eq, ud_ne, Int.add_zero, Int.reduceAdd]; omega)) rfl ?_
        refine v_iaload (n := 1037) (lz := (L : Int)) xB_232 dL_law_1036 (sh_sc _ _ _) rfl (by first | omega | (simp only [sA_same, sA_s, ud_s, Int.reduceEq, if_true, if_false, ite_true, ite_false, ↓reduceIte, and_true, true_and, eq_self, Int.add_zero, Int.reduceAdd]; omega) | (simp (disch := omega) only [sA_same, sA_ne, ud_eq, ud_ne, Int.add_zero, Int.reduceAdd]; omega)) rfl ?_
        refine v_aload_n (n := 1038) xB_232 dL_law_1037 rfl rfl ?_
        refine v_iload_n (n := 1039) xB_232 dL_law_1038 rfl rfl ?_
        refine v_iconst (n := 1040) xB_232 dL_law_1039 ⟨by decide, by decide⟩ rfl ?_
        refine v_iadd (n := 1041) xB_232 dL_law_1040 (by first | omega | (simp only [sA_same, sA_s, ud_s, Int.reduceEq, if_true, if_false, ite_true, ite_false, ↓reduceIte, and_true, true_and, eq_self, Int.add_zero, Int.reduceAdd]; omega) | (simp (disch := omega) only [sA_same, sA_ne, ud_eq, ud_ne, Int.add_zero, Int.reduceAdd]; omega)) rfl ?_
        refine v_iaload (n := 1042) (lz := (L : Int)) xB_232 dL_law_1041 (sh_sc _ _ _) rfl (by first | omega | (simp only [sA_same, sA_s, ud_s, Int.reduceEq, if_true, if_false, ite_true, ite_false, ↓reduceIte, and_true, true_and, eq_self, Int.add_zero, Int.reduceAdd]; omega) | (simp (disch := omega) only [sA_same, sA_ne, ud_eq, ud_ne, Int.add_zero, Int.reduceAdd]; omega)) rfl ?_
        (try rw [e3, hm3])
        refine v_call_v (n := 1045) xB_232 dL_law_1042 xO_232 iv_17_123 rfl (sh_81 _ _ _) rfl rfl rfl ?_
        refine hM _ _ (by omega)  (fun m2 hI2 => ?_)
        refine v_ic_eq_y (t := 1457) xB_232 dL_law_1045 (by decide) rfl (by first | omega | (simp only [sA_same, sA_s, ud_s, Int.reduceEq, if_true, if_false, ite_true, ite_false, ↓reduceIte, and_true, true_and, eq_self, Int.add_zero, Int.reduceAdd]; omega) | (simp (disch := omega) only [sA_same, sA_ne, ud_eq, ud_ne, Int.add_zero, Int.reduceAdd]; omega)) ?_
        refine v_iinc3 (n := 1460) xB_232 dL_law_1457 rfl (by first | omega | (simp only [sA_same, sA_s, ud_s, Int.reduceEq, if_true, if_false, ite_true, ite_false, ↓reduceIte, and_true, true_and, eq_self, Int.add_zero, Int.reduceAdd]; omega) | (simp (disch := omega) only [sA_same, sA_ne, ud_eq, ud_ne, Int.add_zero, Int.reduceAdd]; omega)) rfl ?_
        refine v_goto (t := 18) xB_232 dL_law_1460 (by decide) rfl ?_
        first | exact ih _ _ _ hI2 (by omega) (by omega) (by omega) | exact ih _ _ _ hI (by omega) (by omega) (by omega)
      refine ts_c (lo' := 27) rfl (fun g28 => ?_) (fun g28 => ?_)
      · refine jm_go (t := 1050) (by decide) rfl ?_
        refine v_aload_n (n := 1051) xB_232 dL_law_1050 rfl rfl ?_
        (try rw [hm3])
        refine v_call_v (n := 1054) xB_232 dL_law_1051 xO_232 iv_17_124 rfl (sh_0 _ _ _) rfl rfl rfl ?_
        refine rd_I (p_looked m0 L) (by omega) hI (fun v m1 dy1 hng hM => ?_)
        have e3 : m1 (-3) = m (-3) := hng (-3) (by omega)
        refine v_aload_n (n := 1055) xB_232 dL_law_1054 rfl rfl ?_
        (try rw [e3, hm3])
        refine v_call_v (n := 1058) xB_232 dL_law_1055 xO_232 iv_17_127 rfl (sh_81 _ _ _) rfl rfl rfl ?_
        refine hM _ _ (by omega)  (fun m2 hI2 => ?_)
        refine v_ic_eq_y (t := 1457) xB_232 dL_law_1058 (by decide) rfl (by first | omega | (simp only [sA_same, sA_s, ud_s, Int.reduceEq, if_true, if_false, ite_true, ite_false, ↓reduceIte, and_true, true_and, eq_self, Int.add_zero, Int.reduceAdd]; omega) | (simp (disch := omega) only [sA_same, sA_ne, ud_eq, ud_ne, Int.add_zero, Int.reduceAdd]; omega)) ?_
        refine v_iinc3 (n := 1460) xB_232 dL_law_1457 rfl (by first | omega | (simp only [sA_same, sA_s, ud_s, Int.reduceEq, if_true, if_false, ite_true, ite_false, ↓reduceIte, and_true, true_and, eq_self, Int.add_zero, Int.reduceAdd]; omega) | (simp (disch := omega) only [sA_same, sA_ne, ud_eq, ud_ne, Int.add_zero, Int.reduceAdd]; omega)) rfl ?_
        refine v_goto (t := 18) xB_232 dL_law_1460 (by decide) rfl ?_
        first | exact ih _ _ _ hI2 (by omega) (by omega) (by omega) | exact ih _ _ _ hI (by omega) (by omega) (by omega)
      refine ts_c (lo' := 28) rfl (fun g29 => ?_) (fun g29 => ?_)
      · refine jm_go (t := 1063) (by decide) rfl ?_
        refine v_aload_n (n := 1064) xB_232 dL_law_1063 rfl rfl ?_
        refine v_aload_n (n := 1065) xB_232 dL_law_1064 rfl rfl ?_
        refine v_iload_n (n := 1066) xB_232 dL_law_1065 rfl rfl ?_
        refine v_iconst (n := 1067) xB_232 dL_law_1066 ⟨by decide, by decide⟩ rfl ?_
        refine v_iadd (n := 1068) xB_232 dL_law_1067 (by first | omega | (simp only [sA_same, sA_s, ud_s, Int.reduceEq, if_true, if_false, ite_true, ite_false, ↓reduceIte, and_true, true_and, eq_self, Int.add_zero, Int.reduceAdd]; omega) | (simp (disch := omega) only [sA_same, sA_ne, ud_eq, ud_ne, Int.add_zero, Int.reduceAdd]; omega)) rfl ?_
        refine v_iaload (n := 1069) (lz := (L : Int)) xB_232 dL_law_1068 (sh_sc _ _ _) rfl (by first | omega | (simp only [sA_same, sA_s, ud_s, Int.reduceEq, if_true, if_false, ite_true, ite_false, ↓reduceIte, and_true, true_and, eq_self, Int.add_zero, Int.reduceAdd]; omega) | (simp (disch := omega) only [sA_same, sA_ne, ud_eq, ud_ne, Int.add_zero, Int.reduceAdd]; omega)) rfl ?_
        refine v_aload_n (n := 1070) xB_232 dL_law_1069 rfl rfl ?_
        refine v_iload_n (n := 1071) xB_232 dL_law_1070 rfl rfl ?_
        refine v_iconst (n := 1072) xB_232 dL_law_1071 ⟨by decide, by decide⟩ rfl ?_
        refine v_iadd (n := 1073) xB_232 dL_law_1072 (by first | omega | (simp only [sA_same, sA_s, ud_s, Int.reduceEq, if_true, if_false, ite_true, ite_false, ↓reduceIte, and_true, true_and, eq_self, Int.add_zero, Int.reduceAdd]; omega) | (simp (disch := omega) only [sA_same, sA_ne, ud_eq, ud_ne, Int.add_zero, Int.reduceAdd]; omega)) rfl ?_
        refine v_iaload (n := 1074) (lz := (L : Int)) xB_232 dL_law_1073 (sh_sc _ _ _) rfl (by first | omega | (simp only [sA_same, sA_s, ud_s, Int.reduceEq, if_true, if_false, ite_true, ite_false, ↓reduceIte, and_true, true_and, eq_self, Int.add_zero, Int.reduceAdd]; omega) | (simp (disch := omega) only [sA_same, sA_ne, ud_eq, ud_ne, Int.add_zero, Int.reduceAdd]; omega)) rfl ?_
        (try rw [hm3])
        refine v_call_v (n := 1077) xB_232 dL_law_1074 xO_232 iv_17_128 rfl (sh_0 _ _ _) rfl rfl rfl ?_
        refine rd_I (p_judge m0 L _ _ (hX _)) (by omega) hI (fun v m1 dy1 hng hM => ?_)
        have e3 : m1 (-3) = m (-3) := hng (-3) (by omega)
        refine v_aload_n (n := 1078) xB_232 dL_law_1077 rfl rfl ?_
        refine v_aload_n (n := 1079) xB_232 dL_law_1078 rfl rfl ?_
        refine v_iload_n (n := 1080) xB_232 dL_law_1079 rfl rfl ?_
        refine v_iconst (n := 1081) xB_232 dL_law_1080 ⟨by decide, by decide⟩ rfl ?_
        refine v_iadd (n := 1082) xB_232 dL_law_1081 (by first | omega | (simp only [sA_same, sA_s, ud_s, Int.reduceEq, if_true, if_false, ite_true, ite_false, ↓reduceIte, and_true, true_and, eq_self, Int.add_zero, Int.reduceAdd]; omega) | (simp (disch := omega) only [sA_same, sA_ne, ud_eq, ud_ne, Int.add_zero, Int.reduceAdd]; omega)) rfl ?_
        refine v_iaload (n := 1083) (lz := (L : Int)) xB_232 dL_law_1082 (sh_sc _ _ _) rfl (by first | omega | (simp only [sA_same, sA_s, ud_s, Int.reduceEq, if_true, if_false, ite_true, ite_false, ↓reduceIte, and_true, true_and, eq_self, Int.add_zero, Int.reduceAdd]; omega) | (simp (disch := omega) only [sA_same, sA_ne, ud_eq, ud_ne, Int.add_zero, Int.reduceAdd]; omega)) rfl ?_
        refine v_aload_n (n := 1084) xB_232 dL_law_1083 rfl rfl ?_
        refine v_iload_n (n := 1085) xB_232 dL_law_1084 rfl rfl ?_
        refine v_iconst (n := 1086) xB_232 dL_law_1085 ⟨by decide, by decide⟩ rfl ?_
        refine v_iadd (n := 1087) xB_232 dL_law_1086 (by first | omega | (simp only [sA_same, sA_s, ud_s, Int.reduceEq, if_true, if_false, ite_true, ite_false, ↓reduceIte, and_true, true_and, eq_self, Int.add_zero, Int.reduceAdd]; omega) | (simp (disch := omega) only [sA_same, sA_ne, ud_eq, ud_ne, Int.add_zero, Int.reduceAdd]; omega)) rfl ?_
        refine v_iaload (n := 1088) (lz := (L : Int)) xB_232 dL_law_1087 (sh_sc _ _ _) rfl (by first | omega | (simp only [sA_same, sA_s, ud_s, Int.reduceEq, if_true, if_false, ite_true, ite_false, ↓reduceIte, and_true, true_and, eq_self, Int.add_zero, Int.reduceAdd]; omega) | (simp (disch := omega) only [sA_same, sA_ne, ud_eq, ud_ne, Int.add_zero, Int.reduceAdd]; omega)) rfl ?_
        (try rw [e3, hm3])
        refine v_call_v (n := 1091) xB_232 dL_law_1088 xO_232 iv_17_131 rfl (sh_81 _ _ _) rfl rfl rfl ?_
        refine hM _ _ (by omega)  (fun m2 hI2 => ?_)
        refine v_ic_eq_y (t := 1457) xB_232 dL_law_1091 (by decide) rfl (by first | omega | (simp only [sA_same, sA_s, ud_s, Int.reduceEq, if_true, if_false, ite_true, ite_false, ↓reduceIte, and_true, true_and, eq_self, Int.add_zero, Int.reduceAdd]; omega) | (simp (disch := omega) only [sA_same, sA_ne, ud_eq, ud_ne, Int.add_zero, Int.reduceAdd]; omega)) ?_
        refine v_iinc3 (n := 1460) xB_232 dL_law_1457 rfl (by first | omega | (simp only [sA_same, sA_s, ud_s, Int.reduceEq, if_true, if_false, ite_true, ite_false, ↓reduceIte, and_true, true_and, eq_self, Int.add_zero, Int.reduceAdd]; omega) | (simp (disch := omega) only [sA_same, sA_ne, ud_eq, ud_ne, Int.add_zero, Int.reduceAdd]; omega)) rfl ?_
        refine v_goto (t := 18) xB_232 dL_law_1460 (by decide) rfl ?_
        first | exact ih _ _ _ hI2 (by omega) (by omega) (by omega) | exact ih _ _ _ hI (by omega) (by omega) (by omega)
      refine ts_c (lo' := 29) rfl (fun g30 => ?_) (fun g30 => ?_)
      · refine jm_go (t := 1096) (by decide) rfl ?_
        refine v_aload_n (n := 1097) xB_232 dL_law_1096 rfl rfl ?_
        (try rw [hm3])
        refine v_call_v (n := 1100) xB_232 dL_law_1097 xO_232 iv_17_132 rfl (sh_0 _ _ _) rfl rfl rfl ?_
        refine rd_I (p_image m0 L) (by omega) hI (fun v m1 dy1 hng hM => ?_)
        have e3 : m1 (-3) = m (-3) := hng (-3) (by omega)
        refine v_aload_n (n := 1101) xB_232 dL_law_1100 rfl rfl ?_
        (try rw [e3, hm3])
        refine v_call_v (n := 1104) xB_232 dL_law_1101 xO_232 iv_17_135 rfl (sh_81 _ _ _) rfl rfl rfl ?_
        refine hM _ _ (by omega)  (fun m2 hI2 => ?_)
        refine v_ic_eq_y (t := 1457) xB_232 dL_law_1104 (by decide) rfl (by first | omega | (simp only [sA_same, sA_s, ud_s, Int.reduceEq, if_true, if_false, ite_true, ite_false, ↓reduceIte, and_true, true_and, eq_self, Int.add_zero, Int.reduceAdd]; omega) | (simp (disch := omega) only [sA_same, sA_ne, ud_eq, ud_ne, Int.add_zero, Int.reduceAdd]; omega)) ?_
        refine v_iinc3 (n := 1460) xB_232 dL_law_1457 rfl (by first | omega | (simp only [sA_same, sA_s, ud_s, Int.reduceEq, if_true, if_false, ite_true, ite_false, ↓reduceIte, and_true, true_and, eq_self, Int.add_zero, Int.reduceAdd]; omega) | (simp (disch := omega) only [sA_same, sA_ne, ud_eq, ud_ne, Int.add_zero, Int.reduceAdd]; omega)) rfl ?_
        refine v_goto (t := 18) xB_232 dL_law_1460 (by decide) rfl ?_
        first | exact ih _ _ _ hI2 (by omega) (by omega) (by omega) | exact ih _ _ _ hI (by omega) (by omega) (by omega)
      refine ts_c (lo' := 30) rfl (fun g31 => ?_) (fun g31 => ?_)
      · refine jm_go (t := 1109) (by decide) rfl ?_
        refine v_aload_n (n := 1110) xB_232 dL_law_1109 rfl rfl ?_
        (try rw [hm3])
        refine v_call_v (n := 1113) xB_232 dL_law_1110 xO_232 iv_17_136 rfl (sh_0 _ _ _) rfl rfl rfl ?_
        refine rd_I (p_undo m0 L) (by omega) hI (fun v m1 dy1 hng hM => ?_)
        have e3 : m1 (-3) = m (-3) := hng (-3) (by omega)
        refine v_aload_n (n := 1114) xB_232 dL_law_1113 rfl rfl ?_
        (try rw [e3, hm3])
        refine v_call_v (n := 1117) xB_232 dL_law_1114 xO_232 iv_17_139 rfl (sh_81 _ _ _) rfl rfl rfl ?_
        refine hM _ _ (by omega)  (fun m2 hI2 => ?_)
        refine v_ic_eq_y (t := 1457) xB_232 dL_law_1117 (by decide) rfl (by first | omega | (simp only [sA_same, sA_s, ud_s, Int.reduceEq, if_true, if_false, ite_true, ite_false, ↓reduceIte, and_true, true_and, eq_self, Int.add_zero, Int.reduceAdd]; omega) | (simp (disch := omega) only [sA_same, sA_ne, ud_eq, ud_ne, Int.add_zero, Int.reduceAdd]; omega)) ?_
        refine v_iinc3 (n := 1460) xB_232 dL_law_1457 rfl (by first | omega | (simp only [sA_same, sA_s, ud_s, Int.reduceEq, if_true, if_false, ite_true, ite_false, ↓reduceIte, and_true, true_and, eq_self, Int.add_zero, Int.reduceAdd]; omega) | (simp (disch := omega) only [sA_same, sA_ne, ud_eq, ud_ne, Int.add_zero, Int.reduceAdd]; omega)) rfl ?_
        refine v_goto (t := 18) xB_232 dL_law_1460 (by decide) rfl ?_
        first | exact ih _ _ _ hI2 (by omega) (by omega) (by omega) | exact ih _ _ _ hI (by omega) (by omega) (by omega)
      refine ts_c (lo' := 31) rfl (fun g32 => ?_) (fun g32 => ?_)
      · refine jm_go (t := 1122) (by decide) rfl ?_
        refine v_aload_n (n := 1123) xB_232 dL_law_1122 rfl rfl ?_
        refine v_aload_n (n := 1124) xB_232 dL_law_1123 rfl rfl ?_
        refine v_iload_n (n := 1125) xB_232 dL_law_1124 rfl rfl ?_
        refine v_iconst (n := 1126) xB_232 dL_law_1125 ⟨by decide, by decide⟩ rfl ?_
        refine v_iadd (n := 1127) xB_232 dL_law_1126 (by first | omega | (simp only [sA_same, sA_s, ud_s, Int.reduceEq, if_true, if_false, ite_true, ite_false, ↓reduceIte, and_true, true_and, eq_self, Int.add_zero, Int.reduceAdd]; omega) | (simp (disch := omega) only [sA_same, sA_ne, ud_eq, ud_ne, Int.add_zero, Int.reduceAdd]; omega)) rfl ?_
        refine v_iaload (n := 1128) (lz := (L : Int)) xB_232 dL_law_1127 (sh_sc _ _ _) rfl (by first | omega | (simp only [sA_same, sA_s, ud_s, Int.reduceEq, if_true, if_false, ite_true, ite_false, ↓reduceIte, and_true, true_and, eq_self, Int.add_zero, Int.reduceAdd]; omega) | (simp (disch := omega) only [sA_same, sA_ne, ud_eq, ud_ne, Int.add_zero, Int.reduceAdd]; omega)) rfl ?_
        refine v_aload_n (n := 1129) xB_232 dL_law_1128 rfl rfl ?_
        refine v_iload_n (n := 1130) xB_232 dL_law_1129 rfl rfl ?_
        refine v_iconst (n := 1131) xB_232 dL_law_1130 ⟨by decide, by decide⟩ rfl ?_
        refine v_iadd (n := 1132) xB_232 dL_law_1131 (by first | omega | (simp only [sA_same, sA_s, ud_s, Int.reduceEq, if_true, if_false, ite_true, ite_false, ↓reduceIte, and_true, true_and, eq_self, Int.add_zero, Int.reduceAdd]; omega) | (simp (disch := omega) only [sA_same, sA_ne, ud_eq, ud_ne, Int.add_zero, Int.reduceAdd]; omega)) rfl ?_
        refine v_iaload (n := 1133) (lz := (L : Int)) xB_232 dL_law_1132 (sh_sc _ _ _) rfl (by first | omega | (simp only [sA_same, sA_s, ud_s, Int.reduceEq, if_true, if_false, ite_true, ite_false, ↓reduceIte, and_true, true_and, eq_self, Int.add_zero, Int.reduceAdd]; omega) | (simp (disch := omega) only [sA_same, sA_ne, ud_eq, ud_ne, Int.add_zero, Int.reduceAdd]; omega)) rfl ?_
        refine v_aload_n (n := 1134) xB_232 dL_law_1133 rfl rfl ?_
        refine v_iload_n (n := 1135) xB_232 dL_law_1134 rfl rfl ?_
        refine v_iconst (n := 1136) xB_232 dL_law_1135 ⟨by decide, by decide⟩ rfl ?_
        refine v_iadd (n := 1137) xB_232 dL_law_1136 (by first | omega | (simp only [sA_same, sA_s, ud_s, Int.reduceEq, if_true, if_false, ite_true, ite_false, ↓reduceIte, and_true, true_and, eq_self, Int.add_zero, Int.reduceAdd]; omega) | (simp (disch := omega) only [sA_same, sA_ne, ud_eq, ud_ne, Int.add_zero, Int.reduceAdd]; omega)) rfl ?_
        refine v_iaload (n := 1138) (lz := (L : Int)) xB_232 dL_law_1137 (sh_sc _ _ _) rfl (by first | omega | (simp only [sA_same, sA_s, ud_s, Int.reduceEq, if_true, if_false, ite_true, ite_false, ↓reduceIte, and_true, true_and, eq_self, Int.add_zero, Int.reduceAdd]; omega) | (simp (disch := omega) only [sA_same, sA_ne, ud_eq, ud_ne, Int.add_zero, Int.reduceAdd]; omega)) rfl ?_
        (try rw [hm3])
        refine v_call_v (n := 1141) xB_232 dL_law_1138 xO_232 iv_17_140 rfl (sh_0 _ _ _) rfl rfl rfl ?_
        refine rd_I (p_act m0 L _ _ _) (by omega) hI (fun v m1 dy1 hng hM => ?_)
        have e3 : m1 (-3) = m (-3) := hng (-3) (by omega)
        refine v_aload_n (n := 1142) xB_232 dL_law_1141 rfl rfl ?_
        refine v_aload_n (n := 1143) xB_232 dL_law_1142 rfl rfl ?_
        refine v_iload_n (n := 1144) xB_232 dL_law_1143 rfl rfl ?_
        refine v_iconst (n := 1145) xB_232 dL_law_1144 ⟨by decide, by decide⟩ rfl ?_
        refine v_iadd (n := 1146) xB_232 dL_law_1145 (by first | omega | (simp only [sA_same, sA_s, ud_s, Int.reduceEq, if_true, if_false, ite_true, ite_false, ↓reduceIte, and_true, true_and, eq_self, Int.add_zero, Int.reduceAdd]; omega) | (simp (disch := omega) only [sA_same, sA_ne, ud_eq, ud_ne, Int.add_zero, Int.reduceAdd]; omega)) rfl ?_
        refine v_iaload (n := 1147) (lz := (L : Int)) xB_232 dL_law_1146 (sh_sc _ _ _) rfl (by first | omega | (simp only [sA_same, sA_s, ud_s, Int.reduceEq, if_true, if_false, ite_true, ite_false, ↓reduceIte, and_true, true_and, eq_self, Int.add_zero, Int.reduceAdd]; omega) | (simp (disch := omega) only [sA_same, sA_ne, ud_eq, ud_ne, Int.add_zero, Int.reduceAdd]; omega)) rfl ?_
        refine v_aload_n (n := 1148) xB_232 dL_law_1147 rfl rfl ?_
        refine v_iload_n (n := 1149) xB_232 dL_law_1148 rfl rfl ?_
        refine v_iconst (n := 1150) xB_232 dL_law_1149 ⟨by decide, by decide⟩ rfl ?_
        refine v_iadd (n := 1151) xB_232 dL_law_1150 (by first | omega | (simp only [sA_same, sA_s, ud_s, Int.reduceEq, if_true, if_false, ite_true, ite_false, ↓reduceIte, and_true, true_and, eq_self, Int.add_zero, Int.reduceAdd]; omega) | (simp (disch := omega) only [sA_same, sA_ne, ud_eq, ud_ne, Int.add_zero, Int.reduceAdd]; omega)) rfl ?_
        refine v_iaload (n := 1152) (lz := (L : Int)) xB_232 dL_law_1151 (sh_sc _ _ _) rfl (by first | omega | (simp only [sA_same, sA_s, ud_s, Int.reduceEq, if_true, if_false, ite_true, ite_false, ↓reduceIte, and_true, true_and, eq_self, Int.add_zero, Int.reduceAdd]; omega) | (simp (disch := omega) only [sA_same, sA_ne, ud_eq, ud_ne, Int.add_zero, Int.reduceAdd]; omega)) rfl ?_
        refine v_aload_n (n := 1153) xB_232 dL_law_1152 rfl rfl ?_
        refine v_iload_n (n := 1154) xB_232 dL_law_1153 rfl rfl ?_
        refine v_iconst (n := 1155) xB_232 dL_law_1154 ⟨by decide, by decide⟩ rfl ?_
        refine v_iadd (n := 1156) xB_232 dL_law_1155 (by first | omega | (simp only [sA_same, sA_s, ud_s, Int.reduceEq, if_true, if_false, ite_true, ite_false, ↓reduceIte, and_true, true_and, eq_self, Int.add_zero, Int.reduceAdd]; omega) | (simp (disch := omega) only [sA_same, sA_ne, ud_eq, ud_ne, Int.add_zero, Int.reduceAdd]; omega)) rfl ?_
        refine v_iaload (n := 1157) (lz := (L : Int)) xB_232 dL_law_1156 (sh_sc _ _ _) rfl (by first | omega | (simp only [sA_same, sA_s, ud_s, Int.reduceEq, if_true, if_false, ite_true, ite_false, ↓reduceIte, and_true, true_and, eq_self, Int.add_zero, Int.reduceAdd]; omega) | (simp (disch := omega) only [sA_same, sA_ne, ud_eq, ud_ne, Int.add_zero, Int.reduceAdd]; omega)) rfl ?_
        (try rw [e3, hm3])
        refine v_call_v (n := 1160) xB_232 dL_law_1157 xO_232 iv_17_143 rfl (sh_81 _ _ _) rfl rfl rfl ?_
        refine hM _ _ (by omega)  (fun m2 hI2 => ?_)
        refine v_ic_eq_y (t := 1457) xB_232 dL_law_1160 (by decide) rfl (by first | omega | (simp only [sA_same, sA_s, ud_s, Int.reduceEq, if_true, if_false, ite_true, ite_false, ↓reduceIte, and_true, true_and, eq_self, Int.add_zero, Int.reduceAdd]; omega) | (simp (disch := omega) only [sA_same, sA_ne, ud_eq, ud_ne, Int.add_zero, Int.reduceAdd]; omega)) ?_
        refine v_iinc3 (n := 1460) xB_232 dL_law_1457 rfl (by first | omega | (simp only [sA_same, sA_s, ud_s, Int.reduceEq, if_true, if_false, ite_true, ite_false, ↓reduceIte, and_true, true_and, eq_self, Int.add_zero, Int.reduceAdd]; omega) | (simp (disch := omega) only [sA_same, sA_ne, ud_eq, ud_ne, Int.add_zero, Int.reduceAdd]; omega)) rfl ?_
        refine v_goto (t := 18) xB_232 dL_law_1460 (by decide) rfl ?_
        first | exact ih _ _ _ hI2 (by omega) (by omega) (by omega) | exact ih _ _ _ hI (by omega) (by omega) (by omega)
      refine ts_c (lo' := 32) rfl (fun g33 => ?_) (fun g33 => ?_)
      · refine jm_go (t := 1165) (by decide) rfl ?_
        refine v_aload_n (n := 1166) xB_232 dL_law_1165 rfl rfl ?_
        refine v_aload_n (n := 1167) xB_232 dL_law_1166 rfl rfl ?_
        refine v_iload_n (n := 1168) xB_232 dL_law_1167 rfl rfl ?_
        refine v_iconst (n := 1169) xB_232 dL_law_1168 ⟨by decide, by decide⟩ rfl ?_
        refine v_iadd (n := 1170) xB_232 dL_law_1169 (by first | omega | (simp only [sA_same, sA_s, ud_s, Int.reduceEq, if_true, if_false, ite_true, ite_false, ↓reduceIte, and_true, true_and, eq_self, Int.add_zero, Int.reduceAdd]; omega) | (simp (disch := omega) only [sA_same, sA_ne, ud_eq, ud_ne, Int.add_zero, Int.reduceAdd]; omega)) rfl ?_
        refine v_iaload (n := 1171) (lz := (L : Int)) xB_232 dL_law_1170 (sh_sc _ _ _) rfl (by first | omega | (simp only [sA_same, sA_s, ud_s, Int.reduceEq, if_true, if_false, ite_true, ite_false, ↓reduceIte, and_true, true_and, eq_self, Int.add_zero, Int.reduceAdd]; omega) | (simp (disch := omega) only [sA_same, sA_ne, ud_eq, ud_ne, Int.add_zero, Int.reduceAdd]; omega)) rfl ?_
        (try rw [hm3])
        refine v_call_v (n := 1174) xB_232 dL_law_1171 xO_232 iv_17_144 rfl (sh_0 _ _ _) rfl rfl rfl ?_
        refine rd_I (p_trace m0 L _) (by omega) hI (fun v m1 dy1 hng hM => ?_)
        have e3 : m1 (-3) = m (-3) := hng (-3) (by omega)
        refine v_aload_n (n := 1175) xB_232 dL_law_1174 rfl rfl ?_
        refine v_aload_n (n := 1176) xB_232 dL_law_1175 rfl rfl ?_
        refine v_iload_n (n := 1177) xB_232 dL_law_1176 rfl rfl ?_
        refine v_iconst (n := 1178) xB_232 dL_law_1177 ⟨by decide, by decide⟩ rfl ?_
        refine v_iadd (n := 1179) xB_232 dL_law_1178 (by first | omega | (simp only [sA_same, sA_s, ud_s, Int.reduceEq, if_true, if_false, ite_true, ite_false, ↓reduceIte, and_true, true_and, eq_self, Int.add_zero, Int.reduceAdd]; omega) | (simp (disch := omega) only [sA_same, sA_ne, ud_eq, ud_ne, Int.add_zero, Int.reduceAdd]; omega)) rfl ?_
        refine v_iaload (n := 1180) (lz := (L : Int)) xB_232 dL_law_1179 (sh_sc _ _ _) rfl (by first | omega | (simp only [sA_same, sA_s, ud_s, Int.reduceEq, if_true, if_false, ite_true, ite_false, ↓reduceIte, and_true, true_and, eq_self, Int.add_zero, Int.reduceAdd]; omega) | (simp (disch := omega) only [sA_same, sA_ne, ud_eq, ud_ne, Int.add_zero, Int.reduceAdd]; omega)) rfl ?_
        (try rw [e3, hm3])
        refine v_call_v (n := 1183) xB_232 dL_law_1180 xO_232 iv_17_147 rfl (sh_81 _ _ _) rfl rfl rfl ?_
        refine hM _ _ (by omega)  (fun m2 hI2 => ?_)
        refine v_ic_eq_y (t := 1457) xB_232 dL_law_1183 (by decide) rfl (by first | omega | (simp only [sA_same, sA_s, ud_s, Int.reduceEq, if_true, if_false, ite_true, ite_false, ↓reduceIte, and_true, true_and, eq_self, Int.add_zero, Int.reduceAdd]; omega) | (simp (disch := omega) only [sA_same, sA_ne, ud_eq, ud_ne, Int.add_zero, Int.reduceAdd]; omega)) ?_
        refine v_iinc3 (n := 1460) xB_232 dL_law_1457 rfl (by first | omega | (simp only [sA_same, sA_s, ud_s, Int.reduceEq, if_true, if_false, ite_true, ite_false, ↓reduceIte, and_true, true_and, eq_self, Int.add_zero, Int.reduceAdd]; omega) | (simp (disch := omega) only [sA_same, sA_ne, ud_eq, ud_ne, Int.add_zero, Int.reduceAdd]; omega)) rfl ?_
        refine v_goto (t := 18) xB_232 dL_law_1460 (by decide) rfl ?_
        first | exact ih _ _ _ hI2 (by omega) (by omega) (by omega) | exact ih _ _ _ hI (by omega) (by omega) (by omega)
      refine ts_c (lo' := 33) rfl (fun g34 => ?_) (fun g34 => ?_)
      · refine jm_go (t := 1188) (by decide) rfl ?_
        refine v_aload_n (n := 1189) xB_232 dL_law_1188 rfl rfl ?_
        refine v_aload_n (n := 1190) xB_232 dL_law_1189 rfl rfl ?_
        refine v_iload_n (n := 1191) xB_232 dL_law_1190 rfl rfl ?_
        refine v_iconst (n := 1192) xB_232 dL_law_1191 ⟨by decide, by decide⟩ rfl ?_
        refine v_iadd (n := 1193) xB_232 dL_law_1192 (by first | omega | (simp only [sA_same, sA_s, ud_s, Int.reduceEq, if_true, if_false, ite_true, ite_false, ↓reduceIte, and_true, true_and, eq_self, Int.add_zero, Int.reduceAdd]; omega) | (simp (disch := omega) only [sA_same, sA_ne, ud_eq, ud_ne, Int.add_zero, Int.reduceAdd]; omega)) rfl ?_
        refine v_iaload (n := 1194) (lz := (L : Int)) xB_232 dL_law_1193 (sh_sc _ _ _) rfl (by first | omega | (simp only [sA_same, sA_s, ud_s, Int.reduceEq, if_true, if_false, ite_true, ite_false, ↓reduceIte, and_true, true_and, eq_self, Int.add_zero, Int.reduceAdd]; omega) | (simp (disch := omega) only [sA_same, sA_ne, ud_eq, ud_ne, Int.add_zero, Int.reduceAdd]; omega)) rfl ?_
        refine v_aload_n (n := 1195) xB_232 dL_law_1194 rfl rfl ?_
        refine v_iload_n (n := 1196) xB_232 dL_law_1195 rfl rfl ?_
        refine v_iconst (n := 1197) xB_232 dL_law_1196 ⟨by decide, by decide⟩ rfl ?_
        refine v_iadd (n := 1198) xB_232 dL_law_1197 (by first | omega | (simp only [sA_same, sA_s, ud_s, Int.reduceEq, if_true, if_false, ite_true, ite_false, ↓reduceIte, and_true, true_and, eq_self, Int.add_zero, Int.reduceAdd]; omega) | (simp (disch := omega) only [sA_same, sA_ne, ud_eq, ud_ne, Int.add_zero, Int.reduceAdd]; omega)) rfl ?_
        refine v_iaload (n := 1199) (lz := (L : Int)) xB_232 dL_law_1198 (sh_sc _ _ _) rfl (by first | omega | (simp only [sA_same, sA_s, ud_s, Int.reduceEq, if_true, if_false, ite_true, ite_false, ↓reduceIte, and_true, true_and, eq_self, Int.add_zero, Int.reduceAdd]; omega) | (simp (disch := omega) only [sA_same, sA_ne, ud_eq, ud_ne, Int.add_zero, Int.reduceAdd]; omega)) rfl ?_
        (try rw [hm3])
        refine v_call_v (n := 1202) xB_232 dL_law_1199 xO_232 iv_17_148 rfl (sh_0 _ _ _) rfl rfl rfl ?_
        refine rd_I (p_taken m0 L _ _ hKB) (by omega) hI (fun v m1 dy1 hng hM => ?_)
        have e3 : m1 (-3) = m (-3) := hng (-3) (by omega)
        refine v_aload_n (n := 1203) xB_232 dL_law_1202 rfl rfl ?_
        refine v_aload_n (n := 1204) xB_232 dL_law_1203 rfl rfl ?_
        refine v_iload_n (n := 1205) xB_232 dL_law_1204 rfl rfl ?_
        refine v_iconst (n := 1206) xB_232 dL_law_1205 ⟨by decide, by decide⟩ rfl ?_
        refine v_iadd (n := 1207) xB_232 dL_law_1206 (by first | omega | (simp only [sA_same, sA_s, ud_s, Int.reduceEq, if_true, if_false, ite_true, ite_false, ↓reduceIte, and_true, true_and, eq_self, Int.add_zero, Int.reduceAdd]; omega) | (simp (disch := omega) only [sA_same, sA_ne, ud_eq, ud_ne, Int.add_zero, Int.reduceAdd]; omega)) rfl ?_
        refine v_iaload (n := 1208) (lz := (L : Int)) xB_232 dL_law_1207 (sh_sc _ _ _) rfl (by first | omega | (simp only [sA_same, sA_s, ud_s, Int.reduceEq, if_true, if_false, ite_true, ite_false, ↓reduceIte, and_true, true_and, eq_self, Int.add_zero, Int.reduceAdd]; omega) | (simp (disch := omega) only [sA_same, sA_ne, ud_eq, ud_ne, Int.add_zero, Int.reduceAdd]; omega)) rfl ?_
        refine v_aload_n (n := 1209) xB_232 dL_law_1208 rfl rfl ?_
        refine v_iload_n (n := 1210) xB_232 dL_law_1209 rfl rfl ?_
        refine v_iconst (n := 1211) xB_232 dL_law_1210 ⟨by decide, by decide⟩ rfl ?_
        refine v_iadd (n := 1212) xB_232 dL_law_1211 (by first | omega | (simp only [sA_same, sA_s, ud_s, Int.reduceEq, if_true, if_false, ite_true, ite_false, ↓reduceIte, and_true, true_and, eq_self, Int.add_zero, Int.reduceAdd]; omega) | (simp (disch := omega) only [sA_same, sA_ne, ud_eq, ud_ne, Int.add_zero, Int.reduceAdd]; omega)) rfl ?_
        refine v_iaload (n := 1213) (lz := (L : Int)) xB_232 dL_law_1212 (sh_sc _ _ _) rfl (by first | omega | (simp only [sA_same, sA_s, ud_s, Int.reduceEq, if_true, if_false, ite_true, ite_false, ↓reduceIte, and_true, true_and, eq_self, Int.add_zero, Int.reduceAdd]; omega) | (simp (disch := omega) only [sA_same, sA_ne, ud_eq, ud_ne, Int.add_zero, Int.reduceAdd]; omega)) rfl ?_
        (try rw [e3, hm3])
        refine v_call_v (n := 1216) xB_232 dL_law_1213 xO_232 iv_17_151 rfl (sh_81 _ _ _) rfl rfl rfl ?_
        refine hM _ _ (by omega)  (fun m2 hI2 => ?_)
        refine v_ic_eq_y (t := 1457) xB_232 dL_law_1216 (by decide) rfl (by first | omega | (simp only [sA_same, sA_s, ud_s, Int.reduceEq, if_true, if_false, ite_true, ite_false, ↓reduceIte, and_true, true_and, eq_self, Int.add_zero, Int.reduceAdd]; omega) | (simp (disch := omega) only [sA_same, sA_ne, ud_eq, ud_ne, Int.add_zero, Int.reduceAdd]; omega)) ?_
        refine v_iinc3 (n := 1460) xB_232 dL_law_1457 rfl (by first | omega | (simp only [sA_same, sA_s, ud_s, Int.reduceEq, if_true, if_false, ite_true, ite_false, ↓reduceIte, and_true, true_and, eq_self, Int.add_zero, Int.reduceAdd]; omega) | (simp (disch := omega) only [sA_same, sA_ne, ud_eq, ud_ne, Int.add_zero, Int.reduceAdd]; omega)) rfl ?_
        refine v_goto (t := 18) xB_232 dL_law_1460 (by decide) rfl ?_
        first | exact ih _ _ _ hI2 (by omega) (by omega) (by omega) | exact ih _ _ _ hI (by omega) (by omega) (by omega)
      refine ts_c (lo' := 34) rfl (fun g35 => ?_) (fun g35 => ?_)
      · refine jm_go (t := 1221) (by decide) rfl ?_
        refine v_aload_n (n := 1222) xB_232 dL_law_1221 rfl rfl ?_
        refine v_aload_n (n := 1223) xB_232 dL_law_1222 rfl rfl ?_
        refine v_iload_n (n := 1224) xB_232 dL_law_1223 rfl rfl ?_
        refine v_iconst (n := 1225) xB_232 dL_law_1224 ⟨by decide, by decide⟩ rfl ?_
        refine v_iadd (n := 1226) xB_232 dL_law_1225 (by first | omega | (simp only [sA_same, sA_s, ud_s, Int.reduceEq, if_true, if_false, ite_true, ite_false, ↓reduceIte, and_true, true_and, eq_self, Int.add_zero, Int.reduceAdd]; omega) | (simp (disch := omega) only [sA_same, sA_ne, ud_eq, ud_ne, Int.add_zero, Int.reduceAdd]; omega)) rfl ?_
        refine v_iaload (n := 1227) (lz := (L : Int)) xB_232 dL_law_1226 (sh_sc _ _ _) rfl (by first | omega | (simp only [sA_same, sA_s, ud_s, Int.reduceEq, if_true, if_false, ite_true, ite_false, ↓reduceIte, and_true, true_and, eq_self, Int.add_zero, Int.reduceAdd]; omega) | (simp (disch := omega) only [sA_same, sA_ne, ud_eq, ud_ne, Int.add_zero, Int.reduceAdd]; omega)) rfl ?_
        (try rw [hm3])
        refine v_call_v (n := 1230) xB_232 dL_law_1227 xO_232 iv_17_152 rfl (sh_0 _ _ _) rfl rfl rfl ?_
        refine rd_I (p_count m0 L _) (by omega) hI (fun v m1 dy1 hng hM => ?_)
        have e3 : m1 (-3) = m (-3) := hng (-3) (by omega)
        refine v_aload_n (n := 1231) xB_232 dL_law_1230 rfl rfl ?_
        refine v_aload_n (n := 1232) xB_232 dL_law_1231 rfl rfl ?_
        refine v_iload_n (n := 1233) xB_232 dL_law_1232 rfl rfl ?_
        refine v_iconst (n := 1234) xB_232 dL_law_1233 ⟨by decide, by decide⟩ rfl ?_
        refine v_iadd (n := 1235) xB_232 dL_law_1234 (by first | omega | (simp only [sA_same, sA_s, ud_s, Int.reduceEq, if_true, if_false, ite_true, ite_false, ↓reduceIte, and_true, true_and, eq_self, Int.add_zero, Int.reduceAdd]; omega) | (simp (disch := omega) only [sA_same, sA_ne, ud_eq, ud_ne, Int.add_zero, Int.reduceAdd]; omega)) rfl ?_
        refine v_iaload (n := 1236) (lz := (L : Int)) xB_232 dL_law_1235 (sh_sc _ _ _) rfl (by first | omega | (simp only [sA_same, sA_s, ud_s, Int.reduceEq, if_true, if_false, ite_true, ite_false, ↓reduceIte, and_true, true_and, eq_self, Int.add_zero, Int.reduceAdd]; omega) | (simp (disch := omega) only [sA_same, sA_ne, ud_eq, ud_ne, Int.add_zero, Int.reduceAdd]; omega)) rfl ?_
        (try rw [e3, hm3])
        refine v_call_v (n := 1239) xB_232 dL_law_1236 xO_232 iv_17_155 rfl (sh_81 _ _ _) rfl rfl rfl ?_
        refine hM _ _ (by omega)  (fun m2 hI2 => ?_)
        refine v_ic_eq_y (t := 1457) xB_232 dL_law_1239 (by decide) rfl (by first | omega | (simp only [sA_same, sA_s, ud_s, Int.reduceEq, if_true, if_false, ite_true, ite_false, ↓reduceIte, and_true, true_and, eq_self, Int.add_zero, Int.reduceAdd]; omega) | (simp (disch := omega) only [sA_same, sA_ne, ud_eq, ud_ne, Int.add_zero, Int.reduceAdd]; omega)) ?_
        refine v_iinc3 (n := 1460) xB_232 dL_law_1457 rfl (by first | omega | (simp only [sA_same, sA_s, ud_s, Int.reduceEq, if_true, if_false, ite_true, ite_false, ↓reduceIte, and_true, true_and, eq_self, Int.add_zero, Int.reduceAdd]; omega) | (simp (disch := omega) only [sA_same, sA_ne, ud_eq, ud_ne, Int.add_zero, Int.reduceAdd]; omega)) rfl ?_
        refine v_goto (t := 18) xB_232 dL_law_1460 (by decide) rfl ?_
        first | exact ih _ _ _ hI2 (by omega) (by omega) (by omega) | exact ih _ _ _ hI (by omega) (by omega) (by omega)
      refine ts_c (lo' := 35) rfl (fun g36 => ?_) (fun g36 => ?_)
      · refine jm_go (t := 1244) (by decide) rfl ?_
        refine v_aload_n (n := 1245) xB_232 dL_law_1244 rfl rfl ?_
        refine v_aload_n (n := 1246) xB_232 dL_law_1245 rfl rfl ?_
        refine v_iload_n (n := 1247) xB_232 dL_law_1246 rfl rfl ?_
        refine v_iconst (n := 1248) xB_232 dL_law_1247 ⟨by decide, by decide⟩ rfl ?_
        refine v_iadd (n := 1249) xB_232 dL_law_1248 (by first | omega | (simp only [sA_same, sA_s, ud_s, Int.reduceEq, if_true, if_false, ite_true, ite_false, ↓reduceIte, and_true, true_and, eq_self, Int.add_zero, Int.reduceAdd]; omega) | (simp (disch := omega) only [sA_same, sA_ne, ud_eq, ud_ne, Int.add_zero, Int.reduceAdd]; omega)) rfl ?_
        refine v_iaload (n := 1250) (lz := (L : Int)) xB_232 dL_law_1249 (sh_sc _ _ _) rfl (by first | omega | (simp only [sA_same, sA_s, ud_s, Int.reduceEq, if_true, if_false, ite_true, ite_false, ↓reduceIte, and_true, true_and, eq_self, Int.add_zero, Int.reduceAdd]; omega) | (simp (disch := omega) only [sA_same, sA_ne, ud_eq, ud_ne, Int.add_zero, Int.reduceAdd]; omega)) rfl ?_
        refine v_aload_n (n := 1251) xB_232 dL_law_1250 rfl rfl ?_
        refine v_iload_n (n := 1252) xB_232 dL_law_1251 rfl rfl ?_
        refine v_iconst (n := 1253) xB_232 dL_law_1252 ⟨by decide, by decide⟩ rfl ?_
        refine v_iadd (n := 1254) xB_232 dL_law_1253 (by first | omega | (simp only [sA_same, sA_s, ud_s, Int.reduceEq, if_true, if_false, ite_true, ite_false, ↓reduceIte, and_true, true_and, eq_self, Int.add_zero, Int.reduceAdd]; omega) | (simp (disch := omega) only [sA_same, sA_ne, ud_eq, ud_ne, Int.add_zero, Int.reduceAdd]; omega)) rfl ?_
        refine v_iaload (n := 1255) (lz := (L : Int)) xB_232 dL_law_1254 (sh_sc _ _ _) rfl (by first | omega | (simp only [sA_same, sA_s, ud_s, Int.reduceEq, if_true, if_false, ite_true, ite_false, ↓reduceIte, and_true, true_and, eq_self, Int.add_zero, Int.reduceAdd]; omega) | (simp (disch := omega) only [sA_same, sA_ne, ud_eq, ud_ne, Int.add_zero, Int.reduceAdd]; omega)) rfl ?_
        refine v_aload_n (n := 1256) xB_232 dL_law_1255 rfl rfl ?_
        refine v_iload_n (n := 1257) xB_232 dL_law_1256 rfl rfl ?_
        refine v_iconst (n := 1258) xB_232 dL_law_1257 ⟨by decide, by decide⟩ rfl ?_
        refine v_iadd (n := 1259) xB_232 dL_law_1258 (by first | omega | (simp only [sA_same, sA_s, ud_s, Int.reduceEq, if_true, if_false, ite_true, ite_false, ↓reduceIte, and_true, true_and, eq_self, Int.add_zero, Int.reduceAdd]; omega) | (simp (disch := omega) only [sA_same, sA_ne, ud_eq, ud_ne, Int.add_zero, Int.reduceAdd]; omega)) rfl ?_
        refine v_iaload (n := 1260) (lz := (L : Int)) xB_232 dL_law_1259 (sh_sc _ _ _) rfl (by first | omega | (simp only [sA_same, sA_s, ud_s, Int.reduceEq, if_true, if_false, ite_true, ite_false, ↓reduceIte, and_true, true_and, eq_self, Int.add_zero, Int.reduceAdd]; omega) | (simp (disch := omega) only [sA_same, sA_ne, ud_eq, ud_ne, Int.add_zero, Int.reduceAdd]; omega)) rfl ?_
        (try rw [hm3])
        refine v_call_v (n := 1263) xB_232 dL_law_1260 xO_232 iv_17_156 rfl (sh_0 _ _ _) rfl rfl rfl ?_
        refine rd_I (p_tape m0 L _ _ _) (by omega) hI (fun v m1 dy1 hng hM => ?_)
        have e3 : m1 (-3) = m (-3) := hng (-3) (by omega)
        refine v_aload_n (n := 1264) xB_232 dL_law_1263 rfl rfl ?_
        refine v_aload_n (n := 1265) xB_232 dL_law_1264 rfl rfl ?_
        refine v_iload_n (n := 1266) xB_232 dL_law_1265 rfl rfl ?_
        refine v_iconst (n := 1267) xB_232 dL_law_1266 ⟨by decide, by decide⟩ rfl ?_
        refine v_iadd (n := 1268) xB_232 dL_law_1267 (by first | omega | (simp only [sA_same, sA_s, ud_s, Int.reduceEq, if_true, if_false, ite_true, ite_false, ↓reduceIte, and_true, true_and, eq_self, Int.add_zero, Int.reduceAdd]; omega) | (simp (disch := omega) only [sA_same, sA_ne, ud_eq, ud_ne, Int.add_zero, Int.reduceAdd]; omega)) rfl ?_
        refine v_iaload (n := 1269) (lz := (L : Int)) xB_232 dL_law_1268 (sh_sc _ _ _) rfl (by first | omega | (simp only [sA_same, sA_s, ud_s, Int.reduceEq, if_true, if_false, ite_true, ite_false, ↓reduceIte, and_true, true_and, eq_self, Int.add_zero, Int.reduceAdd]; omega) | (simp (disch := omega) only [sA_same, sA_ne, ud_eq, ud_ne, Int.add_zero, Int.reduceAdd]; omega)) rfl ?_
        refine v_aload_n (n := 1270) xB_232 dL_law_1269 rfl rfl ?_
        refine v_iload_n (n := 1271) xB_232 dL_law_1270 rfl rfl ?_
        refine v_iconst (n := 1272) xB_232 dL_law_1271 ⟨by decide, by decide⟩ rfl ?_
        refine v_iadd (n := 1273) xB_232 dL_law_1272 (by first | omega | (simp only [sA_same, sA_s, ud_s, Int.reduceEq, if_true, if_false, ite_true, ite_false, ↓reduceIte, and_true, true_and, eq_self, Int.add_zero, Int.reduceAdd]; omega) | (simp (disch := omega) only [sA_same, sA_ne, ud_eq, ud_ne, Int.add_zero, Int.reduceAdd]; omega)) rfl ?_
        refine v_iaload (n := 1274) (lz := (L : Int)) xB_232 dL_law_1273 (sh_sc _ _ _) rfl (by first | omega | (simp only [sA_same, sA_s, ud_s, Int.reduceEq, if_true, if_false, ite_true, ite_false, ↓reduceIte, and_true, true_and, eq_self, Int.add_zero, Int.reduceAdd]; omega) | (simp (disch := omega) only [sA_same, sA_ne, ud_eq, ud_ne, Int.add_zero, Int.reduceAdd]; omega)) rfl ?_
        refine v_aload_n (n := 1275) xB_232 dL_law_1274 rfl rfl ?_
        refine v_iload_n (n := 1276) xB_232 dL_law_1275 rfl rfl ?_
        refine v_iconst (n := 1277) xB_232 dL_law_1276 ⟨by decide, by decide⟩ rfl ?_
        refine v_iadd (n := 1278) xB_232 dL_law_1277 (by first | omega | (simp only [sA_same, sA_s, ud_s, Int.reduceEq, if_true, if_false, ite_true, ite_false, ↓reduceIte, and_true, true_and, eq_self, Int.add_zero, Int.reduceAdd]; omega) | (simp (disch := omega) only [sA_same, sA_ne, ud_eq, ud_ne, Int.add_zero, Int.reduceAdd]; omega)) rfl ?_
        refine v_iaload (n := 1279) (lz := (L : Int)) xB_232 dL_law_1278 (sh_sc _ _ _) rfl (by first | omega | (simp only [sA_same, sA_s, ud_s, Int.reduceEq, if_true, if_false, ite_true, ite_false, ↓reduceIte, and_true, true_and, eq_self, Int.add_zero, Int.reduceAdd]; omega) | (simp (disch := omega) only [sA_same, sA_ne, ud_eq, ud_ne, Int.add_zero, Int.reduceAdd]; omega)) rfl ?_
        (try rw [e3, hm3])
        refine v_call_v (n := 1282) xB_232 dL_law_1279 xO_232 iv_17_159 rfl (sh_81 _ _ _) rfl rfl rfl ?_
        refine hM _ _ (by omega)  (fun m2 hI2 => ?_)
        refine v_ic_eq_y (t := 1457) xB_232 dL_law_1282 (by decide) rfl (by first | omega | (simp only [sA_same, sA_s, ud_s, Int.reduceEq, if_true, if_false, ite_true, ite_false, ↓reduceIte, and_true, true_and, eq_self, Int.add_zero, Int.reduceAdd]; omega) | (simp (disch := omega) only [sA_same, sA_ne, ud_eq, ud_ne, Int.add_zero, Int.reduceAdd]; omega)) ?_
        refine v_iinc3 (n := 1460) xB_232 dL_law_1457 rfl (by first | omega | (simp only [sA_same, sA_s, ud_s, Int.reduceEq, if_true, if_false, ite_true, ite_false, ↓reduceIte, and_true, true_and, eq_self, Int.add_zero, Int.reduceAdd]; omega) | (simp (disch := omega) only [sA_same, sA_ne, ud_eq, ud_ne, Int.add_zero, Int.reduceAdd]; omega)) rfl ?_
        refine v_goto (t := 18) xB_232 dL_law_1460 (by decide) rfl ?_
        first | exact ih _ _ _ hI2 (by omega) (by omega) (by omega) | exact ih _ _ _ hI (by omega) (by omega) (by omega)
      refine ts_c (lo' := 36) rfl (fun g37 => ?_) (fun g37 => ?_)
      · refine jm_go (t := 1287) (by decide) rfl ?_
        refine v_aload_n (n := 1288) xB_232 dL_law_1287 rfl rfl ?_
        refine v_aload_n (n := 1289) xB_232 dL_law_1288 rfl rfl ?_
        refine v_iload_n (n := 1290) xB_232 dL_law_1289 rfl rfl ?_
        refine v_iconst (n := 1291) xB_232 dL_law_1290 ⟨by decide, by decide⟩ rfl ?_
        refine v_iadd (n := 1292) xB_232 dL_law_1291 (by first | omega | (simp only [sA_same, sA_s, ud_s, Int.reduceEq, if_true, if_false, ite_true, ite_false, ↓reduceIte, and_true, true_and, eq_self, Int.add_zero, Int.reduceAdd]; omega) | (simp (disch := omega) only [sA_same, sA_ne, ud_eq, ud_ne, Int.add_zero, Int.reduceAdd]; omega)) rfl ?_
        refine v_iaload (n := 1293) (lz := (L : Int)) xB_232 dL_law_1292 (sh_sc _ _ _) rfl (by first | omega | (simp only [sA_same, sA_s, ud_s, Int.reduceEq, if_true, if_false, ite_true, ite_false, ↓reduceIte, and_true, true_and, eq_self, Int.add_zero, Int.reduceAdd]; omega) | (simp (disch := omega) only [sA_same, sA_ne, ud_eq, ud_ne, Int.add_zero, Int.reduceAdd]; omega)) rfl ?_
        refine v_aload_n (n := 1294) xB_232 dL_law_1293 rfl rfl ?_
        refine v_iload_n (n := 1295) xB_232 dL_law_1294 rfl rfl ?_
        refine v_iconst (n := 1296) xB_232 dL_law_1295 ⟨by decide, by decide⟩ rfl ?_
        refine v_iadd (n := 1297) xB_232 dL_law_1296 (by first | omega | (simp only [sA_same, sA_s, ud_s, Int.reduceEq, if_true, if_false, ite_true, ite_false, ↓reduceIte, and_true, true_and, eq_self, Int.add_zero, Int.reduceAdd]; omega) | (simp (disch := omega) only [sA_same, sA_ne, ud_eq, ud_ne, Int.add_zero, Int.reduceAdd]; omega)) rfl ?_
        refine v_iaload (n := 1298) (lz := (L : Int)) xB_232 dL_law_1297 (sh_sc _ _ _) rfl (by first | omega | (simp only [sA_same, sA_s, ud_s, Int.reduceEq, if_true, if_false, ite_true, ite_false, ↓reduceIte, and_true, true_and, eq_self, Int.add_zero, Int.reduceAdd]; omega) | (simp (disch := omega) only [sA_same, sA_ne, ud_eq, ud_ne, Int.add_zero, Int.reduceAdd]; omega)) rfl ?_
        refine v_aload_n (n := 1299) xB_232 dL_law_1298 rfl rfl ?_
        refine v_iload_n (n := 1300) xB_232 dL_law_1299 rfl rfl ?_
        refine v_iconst (n := 1301) xB_232 dL_law_1300 ⟨by decide, by decide⟩ rfl ?_
        refine v_iadd (n := 1302) xB_232 dL_law_1301 (by first | omega | (simp only [sA_same, sA_s, ud_s, Int.reduceEq, if_true, if_false, ite_true, ite_false, ↓reduceIte, and_true, true_and, eq_self, Int.add_zero, Int.reduceAdd]; omega) | (simp (disch := omega) only [sA_same, sA_ne, ud_eq, ud_ne, Int.add_zero, Int.reduceAdd]; omega)) rfl ?_
        refine v_iaload (n := 1303) (lz := (L : Int)) xB_232 dL_law_1302 (sh_sc _ _ _) rfl (by first | omega | (simp only [sA_same, sA_s, ud_s, Int.reduceEq, if_true, if_false, ite_true, ite_false, ↓reduceIte, and_true, true_and, eq_self, Int.add_zero, Int.reduceAdd]; omega) | (simp (disch := omega) only [sA_same, sA_ne, ud_eq, ud_ne, Int.add_zero, Int.reduceAdd]; omega)) rfl ?_
        refine v_i2l (n := 1304) xB_232 dL_law_1303 rfl ?_
        refine v_bipush (n := 1306) xB_232 dL_law_1304 ⟨by decide, by decide⟩ rfl ?_
        refine v_lshl (n := 1307) xB_232 dL_law_1306 rfl ?_
        refine v_aload_n (n := 1308) xB_232 dL_law_1307 rfl rfl ?_
        refine v_iload_n (n := 1309) xB_232 dL_law_1308 rfl rfl ?_
        refine v_iconst (n := 1310) xB_232 dL_law_1309 ⟨by decide, by decide⟩ rfl ?_
        refine v_iadd (n := 1311) xB_232 dL_law_1310 (by first | omega | (simp only [sA_same, sA_s, ud_s, Int.reduceEq, if_true, if_false, ite_true, ite_false, ↓reduceIte, and_true, true_and, eq_self, Int.add_zero, Int.reduceAdd]; omega) | (simp (disch := omega) only [sA_same, sA_ne, ud_eq, ud_ne, Int.add_zero, Int.reduceAdd]; omega)) rfl ?_
        refine v_iaload (n := 1312) (lz := (L : Int)) xB_232 dL_law_1311 (sh_sc _ _ _) rfl (by first | omega | (simp only [sA_same, sA_s, ud_s, Int.reduceEq, if_true, if_false, ite_true, ite_false, ↓reduceIte, and_true, true_and, eq_self, Int.add_zero, Int.reduceAdd]; omega) | (simp (disch := omega) only [sA_same, sA_ne, ud_eq, ud_ne, Int.add_zero, Int.reduceAdd]; omega)) rfl ?_
        refine v_i2l (n := 1313) xB_232 dL_law_1312 rfl ?_
        refine v_ldc2 (n := 1316) xB_232 dL_law_1313 xO_232 l2_17_160 rfl ?_
        refine v_land (n := 1317) xB_232 dL_law_1316 rfl ?_
        refine v_lor (n := 1318) xB_232 dL_law_1317 rfl ?_
        (try rw [hm3])
        refine v_call_v (n := 1321) xB_232 dL_law_1318 xO_232 iv_17_162 rfl (sh_0 _ _ _) rfl rfl rfl ?_
        refine rd_I (p_item m0 L _ _ _) (by omega) hI (fun v m1 dy1 hng hM => ?_)
        have e3 : m1 (-3) = m (-3) := hng (-3) (by omega)
        refine v_aload_n (n := 1322) xB_232 dL_law_1321 rfl rfl ?_
        refine v_aload_n (n := 1323) xB_232 dL_law_1322 rfl rfl ?_
        refine v_iload_n (n := 1324) xB_232 dL_law_1323 rfl rfl ?_
        refine v_iconst (n := 1325) xB_232 dL_law_1324 ⟨by decide, by decide⟩ rfl ?_
        refine v_iadd (n := 1326) xB_232 dL_law_1325 (by first | omega | (simp only [sA_same, sA_s, ud_s, Int.reduceEq, if_true, if_false, ite_true, ite_false, ↓reduceIte, and_true, true_and, eq_self, Int.add_zero, Int.reduceAdd]; omega) | (simp (disch := omega) only [sA_same, sA_ne, ud_eq, ud_ne, Int.add_zero, Int.reduceAdd]; omega)) rfl ?_
        refine v_iaload (n := 1327) (lz := (L : Int)) xB_232 dL_law_1326 (sh_sc _ _ _) rfl (by first | omega | (simp only [sA_same, sA_s, ud_s, Int.reduceEq, if_true, if_false, ite_true, ite_false, ↓reduceIte, and_true, true_and, eq_self, Int.add_zero, Int.reduceAdd]; omega) | (simp (disch := omega) only [sA_same, sA_ne, ud_eq, ud_ne, Int.add_zero, Int.reduceAdd]; omega)) rfl ?_
        refine v_aload_n (n := 1328) xB_232 dL_law_1327 rfl rfl ?_
        refine v_iload_n (n := 1329) xB_232 dL_law_1328 rfl rfl ?_
        refine v_iconst (n := 1330) xB_232 dL_law_1329 ⟨by decide, by decide⟩ rfl ?_
        refine v_iadd (n := 1331) xB_232 dL_law_1330 (by first | omega | (simp only [sA_same, sA_s, ud_s, Int.reduceEq, if_true, if_false, ite_true, ite_false, ↓reduceIte, and_true, true_and, eq_self, Int.add_zero, Int.reduceAdd]; omega) | (simp (disch := omega) only [sA_same, sA_ne, ud_eq, ud_ne, Int.add_zero, Int.reduceAdd]; omega)) rfl ?_
        refine v_iaload (n := 1332) (lz := (L : Int)) xB_232 dL_law_1331 (sh_sc _ _ _) rfl (by first | omega | (simp only [sA_same, sA_s, ud_s, Int.reduceEq, if_true, if_false, ite_true, ite_false, ↓reduceIte, and_true, true_and, eq_self, Int.add_zero, Int.reduceAdd]; omega) | (simp (disch := omega) only [sA_same, sA_ne, ud_eq, ud_ne, Int.add_zero, Int.reduceAdd]; omega)) rfl ?_
        refine v_aload_n (n := 1333) xB_232 dL_law_1332 rfl rfl ?_
        refine v_iload_n (n := 1334) xB_232 dL_law_1333 rfl rfl ?_
        refine v_iconst (n := 1335) xB_232 dL_law_1334 ⟨by decide, by decide⟩ rfl ?_
        refine v_iadd (n := 1336) xB_232 dL_law_1335 (by first | omega | (simp only [sA_same, sA_s, ud_s, Int.reduceEq, if_true, if_false, ite_true, ite_false, ↓reduceIte, and_true, true_and, eq_self, Int.add_zero, Int.reduceAdd]; omega) | (simp (disch := omega) only [sA_same, sA_ne, ud_eq, ud_ne, Int.add_zero, Int.reduceAdd]; omega)) rfl ?_
        refine v_iaload (n := 1337) (lz := (L : Int)) xB_232 dL_law_1336 (sh_sc _ _ _) rfl (by first | omega | (simp only [sA_same, sA_s, ud_s, Int.reduceEq, if_true, if_false, ite_true, ite_false, ↓reduceIte, and_true, true_and, eq_self, Int.add_zero, Int.reduceAdd]; omega) | (simp (disch := omega) only [sA_same, sA_ne, ud_eq, ud_ne, Int.add_zero, Int.reduceAdd]; omega)) rfl ?_
        refine v_i2l (n := 1338) xB_232 dL_law_1337 rfl ?_
        refine v_bipush (n := 1340) xB_232 dL_law_1338 ⟨by decide, by decide⟩ rfl ?_
        refine v_lshl (n := 1341) xB_232 dL_law_1340 rfl ?_
        refine v_aload_n (n := 1342) xB_232 dL_law_1341 rfl rfl ?_
        refine v_iload_n (n := 1343) xB_232 dL_law_1342 rfl rfl ?_
        refine v_iconst (n := 1344) xB_232 dL_law_1343 ⟨by decide, by decide⟩ rfl ?_
        refine v_iadd (n := 1345) xB_232 dL_law_1344 (by first | omega | (simp only [sA_same, sA_s, ud_s, Int.reduceEq, if_true, if_false, ite_true, ite_false, ↓reduceIte, and_true, true_and, eq_self, Int.add_zero, Int.reduceAdd]; omega) | (simp (disch := omega) only [sA_same, sA_ne, ud_eq, ud_ne, Int.add_zero, Int.reduceAdd]; omega)) rfl ?_
        refine v_iaload (n := 1346) (lz := (L : Int)) xB_232 dL_law_1345 (sh_sc _ _ _) rfl (by first | omega | (simp only [sA_same, sA_s, ud_s, Int.reduceEq, if_true, if_false, ite_true, ite_false, ↓reduceIte, and_true, true_and, eq_self, Int.add_zero, Int.reduceAdd]; omega) | (simp (disch := omega) only [sA_same, sA_ne, ud_eq, ud_ne, Int.add_zero, Int.reduceAdd]; omega)) rfl ?_
        refine v_i2l (n := 1347) xB_232 dL_law_1346 rfl ?_
        refine v_ldc2 (n := 1350) xB_232 dL_law_1347 xO_232 l2_17_160 rfl ?_
        refine v_land (n := 1351) xB_232 dL_law_1350 rfl ?_
        refine v_lor (n := 1352) xB_232 dL_law_1351 rfl ?_
        (try rw [e3, hm3])
        refine v_call_v (n := 1355) xB_232 dL_law_1352 xO_232 iv_17_166 rfl (sh_81 _ _ _) rfl rfl rfl ?_
        refine hM _ _ (by omega)  (fun m2 hI2 => ?_)
        refine v_ic_eq_y (t := 1457) xB_232 dL_law_1355 (by decide) rfl (by first | omega | (simp only [sA_same, sA_s, ud_s, Int.reduceEq, if_true, if_false, ite_true, ite_false, ↓reduceIte, and_true, true_and, eq_self, Int.add_zero, Int.reduceAdd]; omega) | (simp (disch := omega) only [sA_same, sA_ne, ud_eq, ud_ne, Int.add_zero, Int.reduceAdd]; omega)) ?_
        refine v_iinc3 (n := 1460) xB_232 dL_law_1457 rfl (by first | omega | (simp only [sA_same, sA_s, ud_s, Int.reduceEq, if_true, if_false, ite_true, ite_false, ↓reduceIte, and_true, true_and, eq_self, Int.add_zero, Int.reduceAdd]; omega) | (simp (disch := omega) only [sA_same, sA_ne, ud_eq, ud_ne, Int.add_zero, Int.reduceAdd]; omega)) rfl ?_
        refine v_goto (t := 18) xB_232 dL_law_1460 (by decide) rfl ?_
        first | exact ih _ _ _ hI2 (by omega) (by omega) (by omega) | exact ih _ _ _ hI (by omega) (by omega) (by omega)
      refine ts_c (lo' := 37) rfl (fun g38 => ?_) (fun g38 => ?_)
      · refine jm_go (t := 1360) (by decide) rfl ?_
        refine v_aload_n (n := 1361) xB_232 dL_law_1360 rfl rfl ?_
        refine v_aload_n (n := 1362) xB_232 dL_law_1361 rfl rfl ?_
        refine v_iload_n (n := 1363) xB_232 dL_law_1362 rfl rfl ?_
        refine v_iconst (n := 1364) xB_232 dL_law_1363 ⟨by decide, by decide⟩ rfl ?_
        refine v_iadd (n := 1365) xB_232 dL_law_1364 (by first | omega | (simp only [sA_same, sA_s, ud_s, Int.reduceEq, if_true, if_false, ite_true, ite_false, ↓reduceIte, and_true, true_and, eq_self, Int.add_zero, Int.reduceAdd]; omega) | (simp (disch := omega) only [sA_same, sA_ne, ud_eq, ud_ne, Int.add_zero, Int.reduceAdd]; omega)) rfl ?_
        refine v_iaload (n := 1366) (lz := (L : Int)) xB_232 dL_law_1365 (sh_sc _ _ _) rfl (by first | omega | (simp only [sA_same, sA_s, ud_s, Int.reduceEq, if_true, if_false, ite_true, ite_false, ↓reduceIte, and_true, true_and, eq_self, Int.add_zero, Int.reduceAdd]; omega) | (simp (disch := omega) only [sA_same, sA_ne, ud_eq, ud_ne, Int.add_zero, Int.reduceAdd]; omega)) rfl ?_
        refine v_aload_n (n := 1367) xB_232 dL_law_1366 rfl rfl ?_
        refine v_iload_n (n := 1368) xB_232 dL_law_1367 rfl rfl ?_
        refine v_iconst (n := 1369) xB_232 dL_law_1368 ⟨by decide, by decide⟩ rfl ?_
        refine v_iadd (n := 1370) xB_232 dL_law_1369 (by first | omega | (simp only [sA_same, sA_s, ud_s, Int.reduceEq, if_true, if_false, ite_true, ite_false, ↓reduceIte, and_true, true_and, eq_self, Int.add_zero, Int.reduceAdd]; omega) | (simp (disch := omega) only [sA_same, sA_ne, ud_eq, ud_ne, Int.add_zero, Int.reduceAdd]; omega)) rfl ?_
        refine v_iaload (n := 1371) (lz := (L : Int)) xB_232 dL_law_1370 (sh_sc _ _ _) rfl (by first | omega | (simp only [sA_same, sA_s, ud_s, Int.reduceEq, if_true, if_false, ite_true, ite_false, ↓reduceIte, and_true, true_and, eq_self, Int.add_zero, Int.reduceAdd]; omega) | (simp (disch := omega) only [sA_same, sA_ne, ud_eq, ud_ne, Int.add_zero, Int.reduceAdd]; omega)) rfl ?_
        (try rw [hm3])
        refine v_call_v (n := 1374) xB_232 dL_law_1371 xO_232 iv_17_167 rfl (sh_0 _ _ _) rfl rfl rfl ?_
        refine rd_L (p_read m0 L _ _) (by omega) hI (fun v m1 dy1 hng hM => ?_)
        have e3 : m1 (-3) = m (-3) := hng (-3) (by omega)
        refine v_aload_n (n := 1375) xB_232 dL_law_1374 rfl rfl ?_
        refine v_aload_n (n := 1376) xB_232 dL_law_1375 rfl rfl ?_
        refine v_iload_n (n := 1377) xB_232 dL_law_1376 rfl rfl ?_
        refine v_iconst (n := 1378) xB_232 dL_law_1377 ⟨by decide, by decide⟩ rfl ?_
        refine v_iadd (n := 1379) xB_232 dL_law_1378 (by first | omega | (simp only [sA_same, sA_s, ud_s, Int.reduceEq, if_true, if_false, ite_true, ite_false, ↓reduceIte, and_true, true_and, eq_self, Int.add_zero, Int.reduceAdd]; omega) | (simp (disch := omega) only [sA_same, sA_ne, ud_eq, ud_ne, Int.add_zero, Int.reduceAdd]; omega)) rfl ?_
        refine v_iaload (n := 1380) (lz := (L : Int)) xB_232 dL_law_1379 (sh_sc _ _ _) rfl (by first | omega | (simp only [sA_same, sA_s, ud_s, Int.reduceEq, if_true, if_false, ite_true, ite_false, ↓reduceIte, and_true, true_and, eq_self, Int.add_zero, Int.reduceAdd]; omega) | (simp (disch := omega) only [sA_same, sA_ne, ud_eq, ud_ne, Int.add_zero, Int.reduceAdd]; omega)) rfl ?_
        refine v_aload_n (n := 1381) xB_232 dL_law_1380 rfl rfl ?_
        refine v_iload_n (n := 1382) xB_232 dL_law_1381 rfl rfl ?_
        refine v_iconst (n := 1383) xB_232 dL_law_1382 ⟨by decide, by decide⟩ rfl ?_
        refine v_iadd (n := 1384) xB_232 dL_law_1383 (by first | omega | (simp only [sA_same, sA_s, ud_s, Int.reduceEq, if_true, if_false, ite_true, ite_false, ↓reduceIte, and_true, true_and, eq_self, Int.add_zero, Int.reduceAdd]; omega) | (simp (disch := omega) only [sA_same, sA_ne, ud_eq, ud_ne, Int.add_zero, Int.reduceAdd]; omega)) rfl ?_
        refine v_iaload (n := 1385) (lz := (L : Int)) xB_232 dL_law_1384 (sh_sc _ _ _) rfl (by first | omega | (simp only [sA_same, sA_s, ud_s, Int.reduceEq, if_true, if_false, ite_true, ite_false, ↓reduceIte, and_true, true_and, eq_self, Int.add_zero, Int.reduceAdd]; omega) | (simp (disch := omega) only [sA_same, sA_ne, ud_eq, ud_ne, Int.add_zero, Int.reduceAdd]; omega)) rfl ?_
        (try rw [e3, hm3])
        refine v_call_v (n := 1388) xB_232 dL_law_1385 xO_232 iv_17_170 rfl (sh_81 _ _ _) rfl rfl rfl ?_
        refine hM _ _ (by omega)  (fun m2 hI2 => ?_)
        refine v_lcmp (n := 1389) xB_232 dL_law_1388 rfl ?_
        refine v_if_eq_y (t := 1457) xB_232 dL_law_1389 (by decide) rfl (lc_vv v) ?_
        refine v_iinc3 (n := 1460) xB_232 dL_law_1457 rfl (by first | omega | (simp only [sA_same, sA_s, ud_s, Int.reduceEq, if_true, if_false, ite_true, ite_false, ↓reduceIte, and_true, true_and, eq_self, Int.add_zero, Int.reduceAdd]; omega) | (simp (disch := omega) only [sA_same, sA_ne, ud_eq, ud_ne, Int.add_zero, Int.reduceAdd]; omega)) rfl ?_
        refine v_goto (t := 18) xB_232 dL_law_1460 (by decide) rfl ?_
        first | exact ih _ _ _ hI2 (by omega) (by omega) (by omega) | exact ih _ _ _ hI (by omega) (by omega) (by omega)
      refine ts_c (lo' := 38) rfl (fun g39 => ?_) (fun g39 => ?_)
      · refine jm_go (t := 1394) (by decide) rfl ?_
        refine v_aload_n (n := 1395) xB_232 dL_law_1394 rfl rfl ?_
        refine v_aload_n (n := 1396) xB_232 dL_law_1395 rfl rfl ?_
        refine v_iload_n (n := 1397) xB_232 dL_law_1396 rfl rfl ?_
        refine v_iconst (n := 1398) xB_232 dL_law_1397 ⟨by decide, by decide⟩ rfl ?_
        refine v_iadd (n := 1399) xB_232 dL_law_1398 (by first | omega | (simp only [sA_same, sA_s, ud_s, Int.reduceEq, if_true, if_false, ite_true, ite_false, ↓reduceIte, and_true, true_and, eq_self, Int.add_zero, Int.reduceAdd]; omega) | (simp (disch := omega) only [sA_same, sA_ne, ud_eq, ud_ne, Int.add_zero, Int.reduceAdd]; omega)) rfl ?_
        refine v_iaload (n := 1400) (lz := (L : Int)) xB_232 dL_law_1399 (sh_sc _ _ _) rfl (by first | omega | (simp only [sA_same, sA_s, ud_s, Int.reduceEq, if_true, if_false, ite_true, ite_false, ↓reduceIte, and_true, true_and, eq_self, Int.add_zero, Int.reduceAdd]; omega) | (simp (disch := omega) only [sA_same, sA_ne, ud_eq, ud_ne, Int.add_zero, Int.reduceAdd]; omega)) rfl ?_
        refine v_aload_n (n := 1401) xB_232 dL_law_1400 rfl rfl ?_
        refine v_iload_n (n := 1402) xB_232 dL_law_1401 rfl rfl ?_
        refine v_iconst (n := 1403) xB_232 dL_law_1402 ⟨by decide, by decide⟩ rfl ?_
        refine v_iadd (n := 1404) xB_232 dL_law_1403 (by first | omega | (simp only [sA_same, sA_s, ud_s, Int.reduceEq, if_true, if_false, ite_true, ite_false, ↓reduceIte, and_true, true_and, eq_self, Int.add_zero, Int.reduceAdd]; omega) | (simp (disch := omega) only [sA_same, sA_ne, ud_eq, ud_ne, Int.add_zero, Int.reduceAdd]; omega)) rfl ?_
        refine v_iaload (n := 1405) (lz := (L : Int)) xB_232 dL_law_1404 (sh_sc _ _ _) rfl (by first | omega | (simp only [sA_same, sA_s, ud_s, Int.reduceEq, if_true, if_false, ite_true, ite_false, ↓reduceIte, and_true, true_and, eq_self, Int.add_zero, Int.reduceAdd]; omega) | (simp (disch := omega) only [sA_same, sA_ne, ud_eq, ud_ne, Int.add_zero, Int.reduceAdd]; omega)) rfl ?_
        refine v_aload_n (n := 1406) xB_232 dL_law_1405 rfl rfl ?_
        refine v_iload_n (n := 1407) xB_232 dL_law_1406 rfl rfl ?_
        refine v_iconst (n := 1408) xB_232 dL_law_1407 ⟨by decide, by decide⟩ rfl ?_
        refine v_iadd (n := 1409) xB_232 dL_law_1408 (by first | omega | (simp only [sA_same, sA_s, ud_s, Int.reduceEq, if_true, if_false, ite_true, ite_false, ↓reduceIte, and_true, true_and, eq_self, Int.add_zero, Int.reduceAdd]; omega) | (simp (disch := omega) only [sA_same, sA_ne, ud_eq, ud_ne, Int.add_zero, Int.reduceAdd]; omega)) rfl ?_
        refine v_iaload (n := 1410) (lz := (L : Int)) xB_232 dL_law_1409 (sh_sc _ _ _) rfl (by first | omega | (simp only [sA_same, sA_s, ud_s, Int.reduceEq, if_true, if_false, ite_true, ite_false, ↓reduceIte, and_true, true_and, eq_self, Int.add_zero, Int.reduceAdd]; omega) | (simp (disch := omega) only [sA_same, sA_ne, ud_eq, ud_ne, Int.add_zero, Int.reduceAdd]; omega)) rfl ?_
        refine v_aload_n (n := 1411) xB_232 dL_law_1410 rfl rfl ?_
        refine v_iload_n (n := 1412) xB_232 dL_law_1411 rfl rfl ?_
        refine v_iconst (n := 1413) xB_232 dL_law_1412 ⟨by decide, by decide⟩ rfl ?_
        refine v_iadd (n := 1414) xB_232 dL_law_1413 (by first | omega | (simp only [sA_same, sA_s, ud_s, Int.reduceEq, if_true, if_false, ite_true, ite_false, ↓reduceIte, and_true, true_and, eq_self, Int.add_zero, Int.reduceAdd]; omega) | (simp (disch := omega) only [sA_same, sA_ne, ud_eq, ud_ne, Int.add_zero, Int.reduceAdd]; omega)) rfl ?_
        refine v_iaload (n := 1415) (lz := (L : Int)) xB_232 dL_law_1414 (sh_sc _ _ _) rfl (by first | omega | (simp only [sA_same, sA_s, ud_s, Int.reduceEq, if_true, if_false, ite_true, ite_false, ↓reduceIte, and_true, true_and, eq_self, Int.add_zero, Int.reduceAdd]; omega) | (simp (disch := omega) only [sA_same, sA_ne, ud_eq, ud_ne, Int.add_zero, Int.reduceAdd]; omega)) rfl ?_
        refine v_aload_n (n := 1416) xB_232 dL_law_1415 rfl rfl ?_
        refine v_iload_n (n := 1417) xB_232 dL_law_1416 rfl rfl ?_
        refine v_iconst (n := 1418) xB_232 dL_law_1417 ⟨by decide, by decide⟩ rfl ?_
        refine v_iadd (n := 1419) xB_232 dL_law_1418 (by first | omega | (simp only [sA_same, sA_s, ud_s, Int.reduceEq, if_true, if_false, ite_true, ite_false, ↓reduceIte, and_true, true_and, eq_self, Int.add_zero, Int.reduceAdd]; omega) | (simp (disch := omega) only [sA_same, sA_ne, ud_eq, ud_ne, Int.add_zero, Int.reduceAdd]; omega)) rfl ?_
        refine v_iaload (n := 1420) (lz := (L : Int)) xB_232 dL_law_1419 (sh_sc _ _ _) rfl (by first | omega | (simp only [sA_same, sA_s, ud_s, Int.reduceEq, if_true, if_false, ite_true, ite_false, ↓reduceIte, and_true, true_and, eq_self, Int.add_zero, Int.reduceAdd]; omega) | (simp (disch := omega) only [sA_same, sA_ne, ud_eq, ud_ne, Int.add_zero, Int.reduceAdd]; omega)) rfl ?_
        (try rw [hm3])
        refine v_call_v (n := 1423) xB_232 dL_law_1420 xO_232 iv_17_171 rfl (sh_0 _ _ _) rfl rfl rfl ?_
        refine rd_I (p_shift m0 L _ _ _ _ _ (hX _)) (by omega) hI (fun v m1 dy1 hng hM => ?_)
        have e3 : m1 (-3) = m (-3) := hng (-3) (by omega)
        refine v_aload_n (n := 1424) xB_232 dL_law_1423 rfl rfl ?_
        refine v_aload_n (n := 1425) xB_232 dL_law_1424 rfl rfl ?_
        refine v_iload_n (n := 1426) xB_232 dL_law_1425 rfl rfl ?_
        refine v_iconst (n := 1427) xB_232 dL_law_1426 ⟨by decide, by decide⟩ rfl ?_
        refine v_iadd (n := 1428) xB_232 dL_law_1427 (by first | omega | (simp only [sA_same, sA_s, ud_s, Int.reduceEq, if_true, if_false, ite_true, ite_false, ↓reduceIte, and_true, true_and, eq_self, Int.add_zero, Int.reduceAdd]; omega) | (simp (disch := omega) only [sA_same, sA_ne, ud_eq, ud_ne, Int.add_zero, Int.reduceAdd]; omega)) rfl ?_
        refine v_iaload (n := 1429) (lz := (L : Int)) xB_232 dL_law_1428 (sh_sc _ _ _) rfl (by first | omega | (simp only [sA_same, sA_s, ud_s, Int.reduceEq, if_true, if_false, ite_true, ite_false, ↓reduceIte, and_true, true_and, eq_self, Int.add_zero, Int.reduceAdd]; omega) | (simp (disch := omega) only [sA_same, sA_ne, ud_eq, ud_ne, Int.add_zero, Int.reduceAdd]; omega)) rfl ?_
        refine v_aload_n (n := 1430) xB_232 dL_law_1429 rfl rfl ?_
        refine v_iload_n (n := 1431) xB_232 dL_law_1430 rfl rfl ?_
        refine v_iconst (n := 1432) xB_232 dL_law_1431 ⟨by decide, by decide⟩ rfl ?_
        refine v_iadd (n := 1433) xB_232 dL_law_1432 (by first | omega | (simp only [sA_same, sA_s, ud_s, Int.reduceEq, if_true, if_false, ite_true, ite_false, ↓reduceIte, and_true, true_and, eq_self, Int.add_zero, Int.reduceAdd]; omega) | (simp (disch := omega) only [sA_same, sA_ne, ud_eq, ud_ne, Int.add_zero, Int.reduceAdd]; omega)) rfl ?_
        refine v_iaload (n := 1434) (lz := (L : Int)) xB_232 dL_law_1433 (sh_sc _ _ _) rfl (by first | omega | (simp only [sA_same, sA_s, ud_s, Int.reduceEq, if_true, if_false, ite_true, ite_false, ↓reduceIte, and_true, true_and, eq_self, Int.add_zero, Int.reduceAdd]; omega) | (simp (disch := omega) only [sA_same, sA_ne, ud_eq, ud_ne, Int.add_zero, Int.reduceAdd]; omega)) rfl ?_
        refine v_aload_n (n := 1435) xB_232 dL_law_1434 rfl rfl ?_
        refine v_iload_n (n := 1436) xB_232 dL_law_1435 rfl rfl ?_
        refine v_iconst (n := 1437) xB_232 dL_law_1436 ⟨by decide, by decide⟩ rfl ?_
        refine v_iadd (n := 1438) xB_232 dL_law_1437 (by first | omega | (simp only [sA_same, sA_s, ud_s, Int.reduceEq, if_true, if_false, ite_true, ite_false, ↓reduceIte, and_true, true_and, eq_self, Int.add_zero, Int.reduceAdd]; omega) | (simp (disch := omega) only [sA_same, sA_ne, ud_eq, ud_ne, Int.add_zero, Int.reduceAdd]; omega)) rfl ?_
        refine v_iaload (n := 1439) (lz := (L : Int)) xB_232 dL_law_1438 (sh_sc _ _ _) rfl (by first | omega | (simp only [sA_same, sA_s, ud_s, Int.reduceEq, if_true, if_false, ite_true, ite_false, ↓reduceIte, and_true, true_and, eq_self, Int.add_zero, Int.reduceAdd]; omega) | (simp (disch := omega) only [sA_same, sA_ne, ud_eq, ud_ne, Int.add_zero, Int.reduceAdd]; omega)) rfl ?_
        refine v_aload_n (n := 1440) xB_232 dL_law_1439 rfl rfl ?_
        refine v_iload_n (n := 1441) xB_232 dL_law_1440 rfl rfl ?_
        refine v_iconst (n := 1442) xB_232 dL_law_1441 ⟨by decide, by decide⟩ rfl ?_
        refine v_iadd (n := 1443) xB_232 dL_law_1442 (by first | omega | (simp only [sA_same, sA_s, ud_s, Int.reduceEq, if_true, if_false, ite_true, ite_false, ↓reduceIte, and_true, true_and, eq_self, Int.add_zero, Int.reduceAdd]; omega) | (simp (disch := omega) only [sA_same, sA_ne, ud_eq, ud_ne, Int.add_zero, Int.reduceAdd]; omega)) rfl ?_
        refine v_iaload (n := 1444) (lz := (L : Int)) xB_232 dL_law_1443 (sh_sc _ _ _) rfl (by first | omega | (simp only [sA_same, sA_s, ud_s, Int.reduceEq, if_true, if_false, ite_true, ite_false, ↓reduceIte, and_true, true_and, eq_self, Int.add_zero, Int.reduceAdd]; omega) | (simp (disch := omega) only [sA_same, sA_ne, ud_eq, ud_ne, Int.add_zero, Int.reduceAdd]; omega)) rfl ?_
        refine v_aload_n (n := 1445) xB_232 dL_law_1444 rfl rfl ?_
        refine v_iload_n (n := 1446) xB_232 dL_law_1445 rfl rfl ?_
        refine v_iconst (n := 1447) xB_232 dL_law_1446 ⟨by decide, by decide⟩ rfl ?_
        refine v_iadd (n := 1448) xB_232 dL_law_1447 (by first | omega | (simp only [sA_same, sA_s, ud_s, Int.reduceEq, if_true, if_false, ite_true, ite_false, ↓reduceIte, and_true, true_and, eq_self, Int.add_zero, Int.reduceAdd]; omega) | (simp (disch := omega) only [sA_same, sA_ne, ud_eq, ud_ne, Int.add_zero, Int.reduceAdd]; omega)) rfl ?_
        refine v_iaload (n := 1449) (lz := (L : Int)) xB_232 dL_law_1448 (sh_sc _ _ _) rfl (by first | omega | (simp only [sA_same, sA_s, ud_s, Int.reduceEq, if_true, if_false, ite_true, ite_false, ↓reduceIte, and_true, true_and, eq_self, Int.add_zero, Int.reduceAdd]; omega) | (simp (disch := omega) only [sA_same, sA_ne, ud_eq, ud_ne, Int.add_zero, Int.reduceAdd]; omega)) rfl ?_
        (try rw [e3, hm3])
        refine v_call_v (n := 1452) xB_232 dL_law_1449 xO_232 iv_17_174 rfl (sh_81 _ _ _) rfl rfl rfl ?_
        refine hM _ _ (by omega)  (fun m2 hI2 => ?_)
        refine v_ic_eq_y (t := 1457) xB_232 dL_law_1452 (by decide) rfl (by first | omega | (simp only [sA_same, sA_s, ud_s, Int.reduceEq, if_true, if_false, ite_true, ite_false, ↓reduceIte, and_true, true_and, eq_self, Int.add_zero, Int.reduceAdd]; omega) | (simp (disch := omega) only [sA_same, sA_ne, ud_eq, ud_ne, Int.add_zero, Int.reduceAdd]; omega)) ?_
        refine v_iinc3 (n := 1460) xB_232 dL_law_1457 rfl (by first | omega | (simp only [sA_same, sA_s, ud_s, Int.reduceEq, if_true, if_false, ite_true, ite_false, ↓reduceIte, and_true, true_and, eq_self, Int.add_zero, Int.reduceAdd]; omega) | (simp (disch := omega) only [sA_same, sA_ne, ud_eq, ud_ne, Int.add_zero, Int.reduceAdd]; omega)) rfl ?_
        refine v_goto (t := 18) xB_232 dL_law_1460 (by decide) rfl ?_
        first | exact ih _ _ _ hI2 (by omega) (by omega) (by omega) | exact ih _ _ _ hI (by omega) (by omega) (by omega)
      refine ts_n ?_
      refine jm_go (t := 1457) (by decide) rfl ?_
      refine v_iinc3 (n := 1460) xB_232 dL_law_1457 rfl (by first | omega | (simp only [sA_same, sA_s, ud_s, Int.reduceEq, if_true, if_false, ite_true, ite_false, ↓reduceIte, and_true, true_and, eq_self, Int.add_zero, Int.reduceAdd]; omega) | (simp (disch := omega) only [sA_same, sA_ne, ud_eq, ud_ne, Int.add_zero, Int.reduceAdd]; omega)) rfl ?_
      refine v_goto (t := 18) xB_232 dL_law_1460 (by decide) rfl ?_
      first | exact ih _ _ _ hI2 (by omega) (by omega) (by omega) | exact ih _ _ _ hI (by omega) (by omega) (by omega)
