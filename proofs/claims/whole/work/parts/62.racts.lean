/-! Acts: the reference. -/
def ap (f : Int → Int) : Int → List Int → (Int → Int)
  | _, [] => f
  | r, b :: L => ap (ud f r b) (r + 1) L
def rsL : Int → List Int → Int
  | r, [] => r
  | r, _ :: L => rsL (r + 1) L
theorem rsL_n : ∀ (L : List Int) (r : Int), rsL r L = r + L.length := by
  intro L
  induction L with
  | nil => intro r; unfold rsL; rw [List.length_nil]; omega
  | cons b L ih => intro r; unfold rsL; rw [ih, List.length_cons]; omega
theorem rsL_app (A B : List Int) : ∀ r : Int, rsL r (A ++ B) = rsL (rsL r A) B := by
  induction A with
  | nil => intro r; rfl
  | cons b A ih => intro r; exact ih _
theorem ap_app (A B : List Int) : ∀ (f : Int → Int) (r : Int), ap f r (A ++ B) = ap (ap f r A) (rsL r A) B := by
  induction A with
  | nil => intro f r; rfl
  | cons b A ih => intro f r; exact ih _ _
def fL (k : Int) : List Int := if k = 2 ∨ k = 5 then [30, 10] else if k = 4 then [50, 10] else if k = 6 then [71, 10] else [10]
def fV (k i v x : Int) : Int := if k = 2 ∨ k = 5 then wr32 (wr32 (x * 3) + i) else if k = 4 then wr32 (-wr32 (x + i)) else if k = 6 then iXor (wr32 (x + i)) v else wr32 (x + i)
def tpV (k i v x : Int) : Int := wr32 (fV k i v x - v)
def fpV (k i v x : Int) : Int := iXor (tpV k i v x) 6
def pL (k : Int) : List Int := if k = 1 then 20 :: 11 :: fL k else if k = 4 then 51 :: 20 :: 11 :: fL k else if k = 6 then 70 :: 11 :: (fL k ++ [10]) else 11 :: fL k
def pV (k i v x : Int) : Int := if k = 1 then fpV k i v x else if k = 4 then fpV k i v (wr32 (x + 1)) else if k = 6 then wr32 (tpV k i v x + wr32 (2 + i)) else tpV k i v x
def ttV (k i v x : Int) : Int := wr32 (pV k i v x * 2)
def tL (k : Int) : List Int := if k = 3 ∨ k = 6 then 40 :: 12 :: (pL k ++ pL k) else if k = 5 then 60 :: 12 :: pL k else 12 :: pL k
def tV (k i v x : Int) : Int := if k = 3 ∨ k = 6 then wr32 (ttV k i v x + pV k i v 1) else if k = 5 then ttV k i v (wr32 (x - i)) else ttV k i v x
theorem fL_len (k : Int) : (fL k).length ≤ 2 := by unfold fL; (repeat' split) <;> simp
theorem pL_len (k : Int) : (pL k).length ≤ 5 := by have := fL_len k; unfold pL; (repeat' split) <;> simp <;> omega
set_option maxHeartbeats 1000000 in
theorem c_body {d : Nat} {b : Int} {m : PM} {dy : List (Nat × Nat)} {L : Nat} {Q : Option PV → PS → Prop} (hd : 1 ≤ d) (hr : 0 ≤ m 81 63 ∧ m 81 63 + 1 ≤ 20) (o1 : Q (none) (setA (setA m 81 (ud (m 81) 63 (m 81 63 + 1))) 124 (ud (m 124) (m 81 63) b), (none, (dy, L)))) : C d 198 [.inr (.inr 81), .inl b] (m, (none, (dy, L))) Q := by
  refine C_go (k := 0) hd xL_198 (fun d hd => ?_)
  show V d 198 (0, ([some (.inr (.inr 81)), some (.inl b)], ([], (m, (none, (dy, L)))))) Q
  refine v_aload_n (n := 1) xB_198 dX11_body_0 rfl rfl ?_
  refine v_gf_i (n := 4) (kz := 63) xB_198 dX11_body_1 xO_198 fl_11_202 fg_11_63 rfl (sh_81 _ _ _) rfl rfl ?_
  refine v_bipush (n := 6) xB_198 dX11_body_4 ⟨by decide, by decide⟩ rfl ?_
  refine v_ic_ge_n (n := 9) xB_198 dX11_body_6 (by decide) rfl (by first | omega | (simp only [sA_same, sA_s, ud_s, Int.reduceEq, if_true, if_false, ite_true, ite_false, ↓reduceIte, and_true, true_and, eq_self, Int.add_zero, Int.reduceAdd]; omega) | (simp (disch := omega) only [sA_same, sA_ne, ud_eq, ud_ne, Int.add_zero, Int.reduceAdd]; omega)) ?_
  refine v_aload_n (n := 10) xB_198 dX11_body_9 rfl rfl ?_
  refine v_gf_s (n := 13) (kz := 64) xB_198 dX11_body_10 xO_198 fl_11_205 fg_11_64 (sh_81 _ _ _) rfl st_81_64 rfl ?_
  refine v_aload_n (n := 14) xB_198 dX11_body_13 rfl rfl ?_
  refine v_gf_i (n := 17) (kz := 63) xB_198 dX11_body_14 xO_198 fl_11_202 fg_11_63 rfl (sh_81 _ _ _) rfl rfl ?_
  refine v_iload_n (n := 18) xB_198 dX11_body_17 rfl rfl ?_
  refine v_iastore (n := 19) (lz := 20) xB_198 dX11_body_18 (sh_124 _ _ _) (by decide) rfl (by first | omega | (simp only [sA_same, sA_s, ud_s, Int.reduceEq, if_true, if_false, ite_true, ite_false, ↓reduceIte, and_true, true_and, eq_self, Int.add_zero, Int.reduceAdd]; omega) | (simp (disch := omega) only [sA_same, sA_ne, ud_eq, ud_ne, Int.add_zero, Int.reduceAdd]; omega)) rfl ?_
  (try simp (disch := omega) only [sA_same, sA_ne, sA_sA, sA_sr, sB_s, ud_eq, ud_ne, ud_ud, ud_sr, uB_s, Int.add_zero, Int.reduceAdd])
  refine v_aload_n (n := 20) xB_198 dX11_body_19 rfl rfl ?_
  refine v_dup (n := 21) xB_198 dX11_body_20 rfl rfl ?_
  refine v_gf_i (n := 24) (kz := 63) xB_198 dX11_body_21 xO_198 fl_11_202 fg_11_63 rfl (sh_81 _ _ _) rfl rfl ?_
  refine v_iconst (n := 25) xB_198 dX11_body_24 ⟨by decide, by decide⟩ rfl ?_
  refine v_iadd (n := 26) xB_198 dX11_body_25 (by first | omega | (simp only [sA_same, sA_s, ud_s, Int.reduceEq, if_true, if_false, ite_true, ite_false, ↓reduceIte, and_true, true_and, eq_self, Int.add_zero, Int.reduceAdd]; omega) | (simp (disch := omega) only [sA_same, sA_ne, ud_eq, ud_ne, Int.add_zero, Int.reduceAdd]; omega)) rfl ?_
  refine v_pf_i (n := 29) (kz := 63) xB_198 dX11_body_26 xO_198 fl_11_202 fg_11_63 (Or.inl fn_11_63) (sh_81 _ _ _) (by decide) rfl rfl ?_
  (try simp (disch := omega) only [sA_same, sA_ne, sA_sA, sA_sr, sB_s, ud_eq, ud_ne, ud_ud, ud_sr, uB_s, Int.add_zero, Int.reduceAdd])
  refine v_return xB_198 dX11_body_29 xK_198 ?_
  exact o1
set_option maxHeartbeats 1000000 in
theorem c_trayFeeds {d : Nat} {i x : Int} {m : PM} {dy : List (Nat × Nat)} {L : Nat} {Q : Option PV → PS → Prop} (hd : 2 ≤ d) (ht : 0 ≤ i ∧ i < 5) (hr : 0 ≤ m 81 63 ∧ m 81 63 + 1 ≤ 20) (o1 : Q (some (.inl (wr32 (x + i)))) (setA (setA m 81 (ud (m 81) 63 (rsL (m 81 63) ([10])))) 124 (ap (m 124) (m 81 63) ([10])), (none, (dy, L)))) : C d 199 [.inr (.inr 81), .inl i, .inl x] (m, (none, (dy, L))) Q := by
  refine C_go (k := 1) hd xL_199 (fun d hd => ?_)
  show V d 199 (0, ([some (.inr (.inr 81)), some (.inl i), some (.inl x)], ([], (m, (none, (dy, L)))))) Q
  refine v_aload_n (n := 1) xB_199 dX11_trayFeeds_0 rfl rfl ?_
  refine v_bipush (n := 3) xB_199 dX11_trayFeeds_1 ⟨by decide, by decide⟩ rfl ?_
  refine v_call_v (n := 6) xB_199 dX11_trayFeeds_3 xO_199 iv_11_389 rfl (sh_81 _ _ _) rfl rfl rfl ?_
  refine c_body (by omega) (by first | omega | (simp only [sA_same, sA_s, ud_s, Int.reduceEq, if_true, if_false, ite_true, ite_false, ↓reduceIte, and_true, true_and, eq_self, Int.add_zero, Int.reduceAdd]; omega) | (simp (disch := omega) only [sA_same, sA_ne, ud_eq, ud_ne, Int.add_zero, Int.reduceAdd]; omega)) ?_
  (try simp (disch := omega) only [sA_same, sA_ne, sA_sA, sA_sr, sB_s, ud_eq, ud_ne, ud_ud, ud_sr, uB_s, Int.add_zero, Int.reduceAdd])
  refine v_iload_n (n := 7) xB_199 dX11_trayFeeds_6 rfl rfl ?_
  refine v_iload_n (n := 8) xB_199 dX11_trayFeeds_7 rfl rfl ?_
  refine v_iaddw (n := 9) xB_199 dX11_trayFeeds_8 rfl ?_
  refine v_ireturn0 xB_199 dX11_trayFeeds_9 xK_199 ?_
  exact o1
set_option maxHeartbeats 1000000 in
theorem c_feedsAct {d : Nat} {i x : Int} {m : PM} {dy : List (Nat × Nat)} {L : Nat} {Q : Option PV → PS → Prop} (hd : 3 ≤ d) (ht : 0 ≤ i ∧ i < 5) (hr : 0 ≤ m 81 63 ∧ m 81 63 + 2 ≤ 20) (h82 : 0 ≤ m 82 i ∧ m 82 i ≤ 6) (o1 : Q (some (.inl (fV (m 82 i) i (m 83 i) x))) (setA (setA m 81 (ud (m 81) 63 (rsL (m 81 63) (fL (m 82 i))))) 124 (ap (m 124) (m 81 63) (fL (m 82 i))), (none, (dy, L)))) : C d 200 [.inr (.inr 81), .inl i, .inl x] (m, (none, (dy, L))) Q := by
  refine C_go (k := 2) hd xL_200 (fun d hd => ?_)
  show V d 200 (0, ([some (.inr (.inr 81)), some (.inl i), some (.inl x)], ([], (m, (none, (dy, L)))))) Q
  rcases (by omega : m 82 i = 0 ∨ m 82 i = 1 ∨ m 82 i = 2 ∨ m 82 i = 3 ∨ m 82 i = 4 ∨ m 82 i = 5 ∨ m 82 i = 6) with hk | hk | hk | hk | hk | hk | hk
  · rw [hk] at o1
    refine v_aload_n (n := 1) xB_200 dX11_feedsAct_0 rfl rfl ?_
    refine v_gf_s (n := 4) (kz := 1) xB_200 dX11_feedsAct_1 xO_200 fl_11_13 fg_11_1 (sh_81 _ _ _) rfl st_81_1 rfl ?_
    refine v_iload_n (n := 5) xB_200 dX11_feedsAct_4 rfl rfl ?_
    refine v_iaload (n := 6) (lz := 5) xB_200 dX11_feedsAct_5 (sh_82 _ _ _) rfl (by first | omega | (simp only [sA_same, sA_s, ud_s, Int.reduceEq, if_true, if_false, ite_true, ite_false, ↓reduceIte, and_true, true_and, eq_self, Int.add_zero, Int.reduceAdd]; omega) | (simp (disch := omega) only [sA_same, sA_ne, ud_eq, ud_ne, Int.add_zero, Int.reduceAdd]; omega)) rfl ?_
    refine v_tsw xB_200 dX11_feedsAct_6 rfl ?_
    refine ts_c (lo' := 3) rfl (fun g1 => ?_) (fun g1 => ?_)
    · refine jm_go (t := 40) (by decide) rfl ?_
      exfalso; omega
    refine ts_c (lo' := 4) rfl (fun g2 => ?_) (fun g2 => ?_)
    · refine jm_go (t := 89) (by decide) rfl ?_
      exfalso; omega
    refine ts_c (lo' := 5) rfl (fun g3 => ?_) (fun g3 => ?_)
    · refine jm_go (t := 55) (by decide) rfl ?_
      exfalso; omega
    refine ts_c (lo' := 6) rfl (fun g4 => ?_) (fun g4 => ?_)
    · refine jm_go (t := 40) (by decide) rfl ?_
      exfalso; omega
    refine ts_c (lo' := 7) rfl (fun g5 => ?_) (fun g5 => ?_)
    · refine jm_go (t := 69) (by decide) rfl ?_
      exfalso; omega
    refine ts_n ?_
    refine jm_go (t := 89) (by decide) rfl ?_
    refine v_aload_n (n := 90) xB_200 dX11_feedsAct_89 rfl rfl ?_
    refine v_iload_n (n := 91) xB_200 dX11_feedsAct_90 rfl rfl ?_
    refine v_iload_n (n := 92) xB_200 dX11_feedsAct_91 rfl rfl ?_
    refine v_call_v (n := 95) xB_200 dX11_feedsAct_92 xO_200 iv_11_392 rfl (sh_81 _ _ _) rfl rfl rfl ?_
    refine c_trayFeeds (by omega) (by first | omega | (simp only [sA_same, sA_s, ud_s, Int.reduceEq, if_true, if_false, ite_true, ite_false, ↓reduceIte, and_true, true_and, eq_self, Int.add_zero, Int.reduceAdd]; omega) | (simp (disch := omega) only [sA_same, sA_ne, ud_eq, ud_ne, Int.add_zero, Int.reduceAdd]; omega)) (by first | omega | (simp only [sA_same, sA_s, ud_s, Int.reduceEq, if_true, if_false, ite_true, ite_false, ↓reduceIte, and_true, true_and, eq_self, Int.add_zero, Int.reduceAdd]; omega) | (simp (disch := omega) only [sA_same, sA_ne, ud_eq, ud_ne, Int.add_zero, Int.reduceAdd]; omega)) ?_
    (try simp (disch := omega) only [sA_same, sA_ne, sA_sA, sA_sr, sB_s, ud_eq, ud_ne, ud_ud, ud_sr, uB_s, Int.add_zero, Int.reduceAdd])
    refine v_ireturn0 xB_200 dX11_feedsAct_95 xK_200 ?_
    exact o1
  · rw [hk] at o1
    refine v_aload_n (n := 1) xB_200 dX11_feedsAct_0 rfl rfl ?_
    refine v_gf_s (n := 4) (kz := 1) xB_200 dX11_feedsAct_1 xO_200 fl_11_13 fg_11_1 (sh_81 _ _ _) rfl st_81_1 rfl ?_
    refine v_iload_n (n := 5) xB_200 dX11_feedsAct_4 rfl rfl ?_
    refine v_iaload (n := 6) (lz := 5) xB_200 dX11_feedsAct_5 (sh_82 _ _ _) rfl (by first | omega | (simp only [sA_same, sA_s, ud_s, Int.reduceEq, if_true, if_false, ite_true, ite_false, ↓reduceIte, and_true, true_and, eq_self, Int.add_zero, Int.reduceAdd]; omega) | (simp (disch := omega) only [sA_same, sA_ne, ud_eq, ud_ne, Int.add_zero, Int.reduceAdd]; omega)) rfl ?_
    refine v_tsw xB_200 dX11_feedsAct_6 rfl ?_
    refine ts_c (lo' := 3) rfl (fun g1 => ?_) (fun g1 => ?_)
    · refine jm_go (t := 40) (by decide) rfl ?_
      exfalso; omega
    refine ts_c (lo' := 4) rfl (fun g2 => ?_) (fun g2 => ?_)
    · refine jm_go (t := 89) (by decide) rfl ?_
      exfalso; omega
    refine ts_c (lo' := 5) rfl (fun g3 => ?_) (fun g3 => ?_)
    · refine jm_go (t := 55) (by decide) rfl ?_
      exfalso; omega
    refine ts_c (lo' := 6) rfl (fun g4 => ?_) (fun g4 => ?_)
    · refine jm_go (t := 40) (by decide) rfl ?_
      exfalso; omega
    refine ts_c (lo' := 7) rfl (fun g5 => ?_) (fun g5 => ?_)
    · refine jm_go (t := 69) (by decide) rfl ?_
      exfalso; omega
    refine ts_n ?_
    refine jm_go (t := 89) (by decide) rfl ?_
    refine v_aload_n (n := 90) xB_200 dX11_feedsAct_89 rfl rfl ?_
    refine v_iload_n (n := 91) xB_200 dX11_feedsAct_90 rfl rfl ?_
    refine v_iload_n (n := 92) xB_200 dX11_feedsAct_91 rfl rfl ?_
    refine v_call_v (n := 95) xB_200 dX11_feedsAct_92 xO_200 iv_11_392 rfl (sh_81 _ _ _) rfl rfl rfl ?_
    refine c_trayFeeds (by omega) (by first | omega | (simp only [sA_same, sA_s, ud_s, Int.reduceEq, if_true, if_false, ite_true, ite_false, ↓reduceIte, and_true, true_and, eq_self, Int.add_zero, Int.reduceAdd]; omega) | (simp (disch := omega) only [sA_same, sA_ne, ud_eq, ud_ne, Int.add_zero, Int.reduceAdd]; omega)) (by first | omega | (simp only [sA_same, sA_s, ud_s, Int.reduceEq, if_true, if_false, ite_true, ite_false, ↓reduceIte, and_true, true_and, eq_self, Int.add_zero, Int.reduceAdd]; omega) | (simp (disch := omega) only [sA_same, sA_ne, ud_eq, ud_ne, Int.add_zero, Int.reduceAdd]; omega)) ?_
    (try simp (disch := omega) only [sA_same, sA_ne, sA_sA, sA_sr, sB_s, ud_eq, ud_ne, ud_ud, ud_sr, uB_s, Int.add_zero, Int.reduceAdd])
    refine v_ireturn0 xB_200 dX11_feedsAct_95 xK_200 ?_
    exact o1
  · rw [hk] at o1
    refine v_aload_n (n := 1) xB_200 dX11_feedsAct_0 rfl rfl ?_
    refine v_gf_s (n := 4) (kz := 1) xB_200 dX11_feedsAct_1 xO_200 fl_11_13 fg_11_1 (sh_81 _ _ _) rfl st_81_1 rfl ?_
    refine v_iload_n (n := 5) xB_200 dX11_feedsAct_4 rfl rfl ?_
    refine v_iaload (n := 6) (lz := 5) xB_200 dX11_feedsAct_5 (sh_82 _ _ _) rfl (by first | omega | (simp only [sA_same, sA_s, ud_s, Int.reduceEq, if_true, if_false, ite_true, ite_false, ↓reduceIte, and_true, true_and, eq_self, Int.add_zero, Int.reduceAdd]; omega) | (simp (disch := omega) only [sA_same, sA_ne, ud_eq, ud_ne, Int.add_zero, Int.reduceAdd]; omega)) rfl ?_
    refine v_tsw xB_200 dX11_feedsAct_6 rfl ?_
    refine ts_c (lo' := 3) rfl (fun g1 => ?_) (fun g1 => ?_)
    · refine jm_go (t := 40) (by decide) rfl ?_
      refine v_aload_n (n := 41) xB_200 dX11_feedsAct_40 rfl rfl ?_
      refine v_bipush (n := 43) xB_200 dX11_feedsAct_41 ⟨by decide, by decide⟩ rfl ?_
      refine v_call_v (n := 46) xB_200 dX11_feedsAct_43 xO_200 iv_11_389 rfl (sh_81 _ _ _) rfl rfl rfl ?_
      refine c_body (by omega) (by first | omega | (simp only [sA_same, sA_s, ud_s, Int.reduceEq, if_true, if_false, ite_true, ite_false, ↓reduceIte, and_true, true_and, eq_self, Int.add_zero, Int.reduceAdd]; omega) | (simp (disch := omega) only [sA_same, sA_ne, ud_eq, ud_ne, Int.add_zero, Int.reduceAdd]; omega)) ?_
      (try simp (disch := omega) only [sA_same, sA_ne, sA_sA, sA_sr, sB_s, ud_eq, ud_ne, ud_ud, ud_sr, uB_s, Int.add_zero, Int.reduceAdd])
      refine v_aload_n (n := 47) xB_200 dX11_feedsAct_46 rfl rfl ?_
      refine v_iload_n (n := 48) xB_200 dX11_feedsAct_47 rfl rfl ?_
      refine v_iload_n (n := 49) xB_200 dX11_feedsAct_48 rfl rfl ?_
      refine v_iconst (n := 50) xB_200 dX11_feedsAct_49 ⟨by decide, by decide⟩ rfl ?_
      refine v_imulw (n := 51) xB_200 dX11_feedsAct_50 rfl ?_
      refine v_call_v (n := 54) xB_200 dX11_feedsAct_51 xO_200 iv_11_392 rfl (sh_81 _ _ _) rfl rfl rfl ?_
      refine c_trayFeeds (by omega) (by first | omega | (simp only [sA_same, sA_s, ud_s, Int.reduceEq, if_true, if_false, ite_true, ite_false, ↓reduceIte, and_true, true_and, eq_self, Int.add_zero, Int.reduceAdd]; omega) | (simp (disch := omega) only [sA_same, sA_ne, ud_eq, ud_ne, Int.add_zero, Int.reduceAdd]; omega)) (by first | omega | (simp only [sA_same, sA_s, ud_s, Int.reduceEq, if_true, if_false, ite_true, ite_false, ↓reduceIte, and_true, true_and, eq_self, Int.add_zero, Int.reduceAdd]; omega) | (simp (disch := omega) only [sA_same, sA_ne, ud_eq, ud_ne, Int.add_zero, Int.reduceAdd]; omega)) ?_
      (try simp (disch := omega) only [sA_same, sA_ne, sA_sA, sA_sr, sB_s, ud_eq, ud_ne, ud_ud, ud_sr, uB_s, Int.add_zero, Int.reduceAdd])
      refine v_ireturn0 xB_200 dX11_feedsAct_54 xK_200 ?_
      exact o1
    refine ts_c (lo' := 4) rfl (fun g2 => ?_) (fun g2 => ?_)
    · refine jm_go (t := 89) (by decide) rfl ?_
      exfalso; omega
    refine ts_c (lo' := 5) rfl (fun g3 => ?_) (fun g3 => ?_)
    · refine jm_go (t := 55) (by decide) rfl ?_
      exfalso; omega
    refine ts_c (lo' := 6) rfl (fun g4 => ?_) (fun g4 => ?_)
    · refine jm_go (t := 40) (by decide) rfl ?_
      exfalso; omega
    refine ts_c (lo' := 7) rfl (fun g5 => ?_) (fun g5 => ?_)
    · refine jm_go (t := 69) (by decide) rfl ?_
      exfalso; omega
    refine ts_n ?_
    refine jm_go (t := 89) (by decide) rfl ?_
    exfalso; omega
  · rw [hk] at o1
    refine v_aload_n (n := 1) xB_200 dX11_feedsAct_0 rfl rfl ?_
    refine v_gf_s (n := 4) (kz := 1) xB_200 dX11_feedsAct_1 xO_200 fl_11_13 fg_11_1 (sh_81 _ _ _) rfl st_81_1 rfl ?_
    refine v_iload_n (n := 5) xB_200 dX11_feedsAct_4 rfl rfl ?_
    refine v_iaload (n := 6) (lz := 5) xB_200 dX11_feedsAct_5 (sh_82 _ _ _) rfl (by first | omega | (simp only [sA_same, sA_s, ud_s, Int.reduceEq, if_true, if_false, ite_true, ite_false, ↓reduceIte, and_true, true_and, eq_self, Int.add_zero, Int.reduceAdd]; omega) | (simp (disch := omega) only [sA_same, sA_ne, ud_eq, ud_ne, Int.add_zero, Int.reduceAdd]; omega)) rfl ?_
    refine v_tsw xB_200 dX11_feedsAct_6 rfl ?_
    refine ts_c (lo' := 3) rfl (fun g1 => ?_) (fun g1 => ?_)
    · refine jm_go (t := 40) (by decide) rfl ?_
      exfalso; omega
    refine ts_c (lo' := 4) rfl (fun g2 => ?_) (fun g2 => ?_)
    · refine jm_go (t := 89) (by decide) rfl ?_
      refine v_aload_n (n := 90) xB_200 dX11_feedsAct_89 rfl rfl ?_
      refine v_iload_n (n := 91) xB_200 dX11_feedsAct_90 rfl rfl ?_
      refine v_iload_n (n := 92) xB_200 dX11_feedsAct_91 rfl rfl ?_
      refine v_call_v (n := 95) xB_200 dX11_feedsAct_92 xO_200 iv_11_392 rfl (sh_81 _ _ _) rfl rfl rfl ?_
      refine c_trayFeeds (by omega) (by first | omega | (simp only [sA_same, sA_s, ud_s, Int.reduceEq, if_true, if_false, ite_true, ite_false, ↓reduceIte, and_true, true_and, eq_self, Int.add_zero, Int.reduceAdd]; omega) | (simp (disch := omega) only [sA_same, sA_ne, ud_eq, ud_ne, Int.add_zero, Int.reduceAdd]; omega)) (by first | omega | (simp only [sA_same, sA_s, ud_s, Int.reduceEq, if_true, if_false, ite_true, ite_false, ↓reduceIte, and_true, true_and, eq_self, Int.add_zero, Int.reduceAdd]; omega) | (simp (disch := omega) only [sA_same, sA_ne, ud_eq, ud_ne, Int.add_zero, Int.reduceAdd]; omega)) ?_
      (try simp (disch := omega) only [sA_same, sA_ne, sA_sA, sA_sr, sB_s, ud_eq, ud_ne, ud_ud, ud_sr, uB_s, Int.add_zero, Int.reduceAdd])
      refine v_ireturn0 xB_200 dX11_feedsAct_95 xK_200 ?_
      exact o1
    refine ts_c (lo' := 5) rfl (fun g3 => ?_) (fun g3 => ?_)
    · refine jm_go (t := 55) (by decide) rfl ?_
      exfalso; omega
    refine ts_c (lo' := 6) rfl (fun g4 => ?_) (fun g4 => ?_)
    · refine jm_go (t := 40) (by decide) rfl ?_
      exfalso; omega
    refine ts_c (lo' := 7) rfl (fun g5 => ?_) (fun g5 => ?_)
    · refine jm_go (t := 69) (by decide) rfl ?_
      exfalso; omega
    refine ts_n ?_
    refine jm_go (t := 89) (by decide) rfl ?_
    exfalso; omega
  · rw [hk] at o1
    refine v_aload_n (n := 1) xB_200 dX11_feedsAct_0 rfl rfl ?_
    refine v_gf_s (n := 4) (kz := 1) xB_200 dX11_feedsAct_1 xO_200 fl_11_13 fg_11_1 (sh_81 _ _ _) rfl st_81_1 rfl ?_
    refine v_iload_n (n := 5) xB_200 dX11_feedsAct_4 rfl rfl ?_
    refine v_iaload (n := 6) (lz := 5) xB_200 dX11_feedsAct_5 (sh_82 _ _ _) rfl (by first | omega | (simp only [sA_same, sA_s, ud_s, Int.reduceEq, if_true, if_false, ite_true, ite_false, ↓reduceIte, and_true, true_and, eq_self, Int.add_zero, Int.reduceAdd]; omega) | (simp (disch := omega) only [sA_same, sA_ne, ud_eq, ud_ne, Int.add_zero, Int.reduceAdd]; omega)) rfl ?_
    refine v_tsw xB_200 dX11_feedsAct_6 rfl ?_
    refine ts_c (lo' := 3) rfl (fun g1 => ?_) (fun g1 => ?_)
    · refine jm_go (t := 40) (by decide) rfl ?_
      exfalso; omega
    refine ts_c (lo' := 4) rfl (fun g2 => ?_) (fun g2 => ?_)
    · refine jm_go (t := 89) (by decide) rfl ?_
      exfalso; omega
    refine ts_c (lo' := 5) rfl (fun g3 => ?_) (fun g3 => ?_)
    · refine jm_go (t := 55) (by decide) rfl ?_
      refine v_aload_n (n := 56) xB_200 dX11_feedsAct_55 rfl rfl ?_
      refine v_bipush (n := 58) xB_200 dX11_feedsAct_56 ⟨by decide, by decide⟩ rfl ?_
      refine v_call_v (n := 61) xB_200 dX11_feedsAct_58 xO_200 iv_11_389 rfl (sh_81 _ _ _) rfl rfl rfl ?_
      refine c_body (by omega) (by first | omega | (simp only [sA_same, sA_s, ud_s, Int.reduceEq, if_true, if_false, ite_true, ite_false, ↓reduceIte, and_true, true_and, eq_self, Int.add_zero, Int.reduceAdd]; omega) | (simp (disch := omega) only [sA_same, sA_ne, ud_eq, ud_ne, Int.add_zero, Int.reduceAdd]; omega)) ?_
      (try simp (disch := omega) only [sA_same, sA_ne, sA_sA, sA_sr, sB_s, ud_eq, ud_ne, ud_ud, ud_sr, uB_s, Int.add_zero, Int.reduceAdd])
      refine v_aload_n (n := 62) xB_200 dX11_feedsAct_61 rfl rfl ?_
      refine v_iload_n (n := 63) xB_200 dX11_feedsAct_62 rfl rfl ?_
      refine v_iload_n (n := 64) xB_200 dX11_feedsAct_63 rfl rfl ?_
      refine v_call_v (n := 67) xB_200 dX11_feedsAct_64 xO_200 iv_11_392 rfl (sh_81 _ _ _) rfl rfl rfl ?_
      refine c_trayFeeds (by omega) (by first | omega | (simp only [sA_same, sA_s, ud_s, Int.reduceEq, if_true, if_false, ite_true, ite_false, ↓reduceIte, and_true, true_and, eq_self, Int.add_zero, Int.reduceAdd]; omega) | (simp (disch := omega) only [sA_same, sA_ne, ud_eq, ud_ne, Int.add_zero, Int.reduceAdd]; omega)) (by first | omega | (simp only [sA_same, sA_s, ud_s, Int.reduceEq, if_true, if_false, ite_true, ite_false, ↓reduceIte, and_true, true_and, eq_self, Int.add_zero, Int.reduceAdd]; omega) | (simp (disch := omega) only [sA_same, sA_ne, ud_eq, ud_ne, Int.add_zero, Int.reduceAdd]; omega)) ?_
      (try simp (disch := omega) only [sA_same, sA_ne, sA_sA, sA_sr, sB_s, ud_eq, ud_ne, ud_ud, ud_sr, uB_s, Int.add_zero, Int.reduceAdd])
      refine v_inegw (n := 68) xB_200 dX11_feedsAct_67 rfl ?_
      refine v_ireturn0 xB_200 dX11_feedsAct_68 xK_200 ?_
      exact o1
    refine ts_c (lo' := 6) rfl (fun g4 => ?_) (fun g4 => ?_)
    · refine jm_go (t := 40) (by decide) rfl ?_
      exfalso; omega
    refine ts_c (lo' := 7) rfl (fun g5 => ?_) (fun g5 => ?_)
    · refine jm_go (t := 69) (by decide) rfl ?_
      exfalso; omega
    refine ts_n ?_
    refine jm_go (t := 89) (by decide) rfl ?_
    exfalso; omega
  · rw [hk] at o1
    refine v_aload_n (n := 1) xB_200 dX11_feedsAct_0 rfl rfl ?_
    refine v_gf_s (n := 4) (kz := 1) xB_200 dX11_feedsAct_1 xO_200 fl_11_13 fg_11_1 (sh_81 _ _ _) rfl st_81_1 rfl ?_
    refine v_iload_n (n := 5) xB_200 dX11_feedsAct_4 rfl rfl ?_
    refine v_iaload (n := 6) (lz := 5) xB_200 dX11_feedsAct_5 (sh_82 _ _ _) rfl (by first | omega | (simp only [sA_same, sA_s, ud_s, Int.reduceEq, if_true, if_false, ite_true, ite_false, ↓reduceIte, and_true, true_and, eq_self, Int.add_zero, Int.reduceAdd]; omega) | (simp (disch := omega) only [sA_same, sA_ne, ud_eq, ud_ne, Int.add_zero, Int.reduceAdd]; omega)) rfl ?_
    refine v_tsw xB_200 dX11_feedsAct_6 rfl ?_
    refine ts_c (lo' := 3) rfl (fun g1 => ?_) (fun g1 => ?_)
    · refine jm_go (t := 40) (by decide) rfl ?_
      exfalso; omega
    refine ts_c (lo' := 4) rfl (fun g2 => ?_) (fun g2 => ?_)
    · refine jm_go (t := 89) (by decide) rfl ?_
      exfalso; omega
    refine ts_c (lo' := 5) rfl (fun g3 => ?_) (fun g3 => ?_)
    · refine jm_go (t := 55) (by decide) rfl ?_
      exfalso; omega
    refine ts_c (lo' := 6) rfl (fun g4 => ?_) (fun g4 => ?_)
    · refine jm_go (t := 40) (by decide) rfl ?_
      refine v_aload_n (n := 41) xB_200 dX11_feedsAct_40 rfl rfl ?_
      refine v_bipush (n := 43) xB_200 dX11_feedsAct_41 ⟨by decide, by decide⟩ rfl ?_
      refine v_call_v (n := 46) xB_200 dX11_feedsAct_43 xO_200 iv_11_389 rfl (sh_81 _ _ _) rfl rfl rfl ?_
      refine c_body (by omega) (by first | omega | (simp only [sA_same, sA_s, ud_s, Int.reduceEq, if_true, if_false, ite_true, ite_false, ↓reduceIte, and_true, true_and, eq_self, Int.add_zero, Int.reduceAdd]; omega) | (simp (disch := omega) only [sA_same, sA_ne, ud_eq, ud_ne, Int.add_zero, Int.reduceAdd]; omega)) ?_
      (try simp (disch := omega) only [sA_same, sA_ne, sA_sA, sA_sr, sB_s, ud_eq, ud_ne, ud_ud, ud_sr, uB_s, Int.add_zero, Int.reduceAdd])
      refine v_aload_n (n := 47) xB_200 dX11_feedsAct_46 rfl rfl ?_
      refine v_iload_n (n := 48) xB_200 dX11_feedsAct_47 rfl rfl ?_
      refine v_iload_n (n := 49) xB_200 dX11_feedsAct_48 rfl rfl ?_
      refine v_iconst (n := 50) xB_200 dX11_feedsAct_49 ⟨by decide, by decide⟩ rfl ?_
      refine v_imulw (n := 51) xB_200 dX11_feedsAct_50 rfl ?_
      refine v_call_v (n := 54) xB_200 dX11_feedsAct_51 xO_200 iv_11_392 rfl (sh_81 _ _ _) rfl rfl rfl ?_
      refine c_trayFeeds (by omega) (by first | omega | (simp only [sA_same, sA_s, ud_s, Int.reduceEq, if_true, if_false, ite_true, ite_false, ↓reduceIte, and_true, true_and, eq_self, Int.add_zero, Int.reduceAdd]; omega) | (simp (disch := omega) only [sA_same, sA_ne, ud_eq, ud_ne, Int.add_zero, Int.reduceAdd]; omega)) (by first | omega | (simp only [sA_same, sA_s, ud_s, Int.reduceEq, if_true, if_false, ite_true, ite_false, ↓reduceIte, and_true, true_and, eq_self, Int.add_zero, Int.reduceAdd]; omega) | (simp (disch := omega) only [sA_same, sA_ne, ud_eq, ud_ne, Int.add_zero, Int.reduceAdd]; omega)) ?_
      (try simp (disch := omega) only [sA_same, sA_ne, sA_sA, sA_sr, sB_s, ud_eq, ud_ne, ud_ud, ud_sr, uB_s, Int.add_zero, Int.reduceAdd])
      refine v_ireturn0 xB_200 dX11_feedsAct_54 xK_200 ?_
      exact o1
    refine ts_c (lo' := 7) rfl (fun g5 => ?_) (fun g5 => ?_)
    · refine jm_go (t := 69) (by decide) rfl ?_
      exfalso; omega
    refine ts_n ?_
    refine jm_go (t := 89) (by decide) rfl ?_
    exfalso; omega
  · rw [hk] at o1
    refine v_aload_n (n := 1) xB_200 dX11_feedsAct_0 rfl rfl ?_
    refine v_gf_s (n := 4) (kz := 1) xB_200 dX11_feedsAct_1 xO_200 fl_11_13 fg_11_1 (sh_81 _ _ _) rfl st_81_1 rfl ?_
    refine v_iload_n (n := 5) xB_200 dX11_feedsAct_4 rfl rfl ?_
    refine v_iaload (n := 6) (lz := 5) xB_200 dX11_feedsAct_5 (sh_82 _ _ _) rfl (by first | omega | (simp only [sA_same, sA_s, ud_s, Int.reduceEq, if_true, if_false, ite_true, ite_false, ↓reduceIte, and_true, true_and, eq_self, Int.add_zero, Int.reduceAdd]; omega) | (simp (disch := omega) only [sA_same, sA_ne, ud_eq, ud_ne, Int.add_zero, Int.reduceAdd]; omega)) rfl ?_
    refine v_tsw xB_200 dX11_feedsAct_6 rfl ?_
    refine ts_c (lo' := 3) rfl (fun g1 => ?_) (fun g1 => ?_)
    · refine jm_go (t := 40) (by decide) rfl ?_
      exfalso; omega
    refine ts_c (lo' := 4) rfl (fun g2 => ?_) (fun g2 => ?_)
    · refine jm_go (t := 89) (by decide) rfl ?_
      exfalso; omega
    refine ts_c (lo' := 5) rfl (fun g3 => ?_) (fun g3 => ?_)
    · refine jm_go (t := 55) (by decide) rfl ?_
      exfalso; omega
    refine ts_c (lo' := 6) rfl (fun g4 => ?_) (fun g4 => ?_)
    · refine jm_go (t := 40) (by decide) rfl ?_
      exfalso; omega
    refine ts_c (lo' := 7) rfl (fun g5 => ?_) (fun g5 => ?_)
    · refine jm_go (t := 69) (by decide) rfl ?_
      refine v_aload_n (n := 70) xB_200 dX11_feedsAct_69 rfl rfl ?_
      refine v_bipush (n := 72) xB_200 dX11_feedsAct_70 ⟨by decide, by decide⟩ rfl ?_
      refine v_call_v (n := 75) xB_200 dX11_feedsAct_72 xO_200 iv_11_389 rfl (sh_81 _ _ _) rfl rfl rfl ?_
      refine c_body (by omega) (by first | omega | (simp only [sA_same, sA_s, ud_s, Int.reduceEq, if_true, if_false, ite_true, ite_false, ↓reduceIte, and_true, true_and, eq_self, Int.add_zero, Int.reduceAdd]; omega) | (simp (disch := omega) only [sA_same, sA_ne, ud_eq, ud_ne, Int.add_zero, Int.reduceAdd]; omega)) ?_
      (try simp (disch := omega) only [sA_same, sA_ne, sA_sA, sA_sr, sB_s, ud_eq, ud_ne, ud_ud, ud_sr, uB_s, Int.add_zero, Int.reduceAdd])
      refine v_aload_n (n := 76) xB_200 dX11_feedsAct_75 rfl rfl ?_
      refine v_iload_n (n := 77) xB_200 dX11_feedsAct_76 rfl rfl ?_
      refine v_iload_n (n := 78) xB_200 dX11_feedsAct_77 rfl rfl ?_
      refine v_call_v (n := 81) xB_200 dX11_feedsAct_78 xO_200 iv_11_392 rfl (sh_81 _ _ _) rfl rfl rfl ?_
      refine c_trayFeeds (by omega) (by first | omega | (simp only [sA_same, sA_s, ud_s, Int.reduceEq, if_true, if_false, ite_true, ite_false, ↓reduceIte, and_true, true_and, eq_self, Int.add_zero, Int.reduceAdd]; omega) | (simp (disch := omega) only [sA_same, sA_ne, ud_eq, ud_ne, Int.add_zero, Int.reduceAdd]; omega)) (by first | omega | (simp only [sA_same, sA_s, ud_s, Int.reduceEq, if_true, if_false, ite_true, ite_false, ↓reduceIte, and_true, true_and, eq_self, Int.add_zero, Int.reduceAdd]; omega) | (simp (disch := omega) only [sA_same, sA_ne, ud_eq, ud_ne, Int.add_zero, Int.reduceAdd]; omega)) ?_
      (try simp (disch := omega) only [sA_same, sA_ne, sA_sA, sA_sr, sB_s, ud_eq, ud_ne, ud_ud, ud_sr, uB_s, Int.add_zero, Int.reduceAdd])
      refine v_aload_n (n := 82) xB_200 dX11_feedsAct_81 rfl rfl ?_
      refine v_gf_s (n := 85) (kz := 2) xB_200 dX11_feedsAct_82 xO_200 fl_11_17 fg_11_2 (sh_81 _ _ _) rfl st_81_2 rfl ?_
      refine v_iload_n (n := 86) xB_200 dX11_feedsAct_85 rfl rfl ?_
      refine v_iaload (n := 87) (lz := 5) xB_200 dX11_feedsAct_86 (sh_83 _ _ _) rfl (by first | omega | (simp only [sA_same, sA_s, ud_s, Int.reduceEq, if_true, if_false, ite_true, ite_false, ↓reduceIte, and_true, true_and, eq_self, Int.add_zero, Int.reduceAdd]; omega) | (simp (disch := omega) only [sA_same, sA_ne, ud_eq, ud_ne, Int.add_zero, Int.reduceAdd]; omega)) rfl ?_
      refine v_ixor (n := 88) xB_200 dX11_feedsAct_87 rfl ?_
      refine v_ireturn0 xB_200 dX11_feedsAct_88 xK_200 ?_
      exact o1
    refine ts_n ?_
    refine jm_go (t := 89) (by decide) rfl ?_
    exfalso; omega
set_option maxHeartbeats 1000000 in
theorem c_trayPrints {d : Nat} {i x : Int} {m : PM} {dy : List (Nat × Nat)} {L : Nat} {Q : Option PV → PS → Prop} (hd : 4 ≤ d) (ht : 0 ≤ i ∧ i < 5) (hr : 0 ≤ m 81 63 ∧ m 81 63 + 3 ≤ 20) (h82 : 0 ≤ m 82 i ∧ m 82 i ≤ 6) (o1 : Q (some (.inl (tpV (m 82 i) i (m 83 i) x))) (setA (setA m 81 (ud (m 81) 63 (rsL (m 81 63) (11 :: fL (m 82 i))))) 124 (ap (m 124) (m 81 63) (11 :: fL (m 82 i))), (none, (dy, L)))) : C d 201 [.inr (.inr 81), .inl i, .inl x] (m, (none, (dy, L))) Q := by
  refine C_go (k := 3) hd xL_201 (fun d hd => ?_)
  show V d 201 (0, ([some (.inr (.inr 81)), some (.inl i), some (.inl x)], ([], (m, (none, (dy, L)))))) Q
  refine v_aload_n (n := 1) xB_201 dX11_trayPrints_0 rfl rfl ?_
  refine v_bipush (n := 3) xB_201 dX11_trayPrints_1 ⟨by decide, by decide⟩ rfl ?_
  refine v_call_v (n := 6) xB_201 dX11_trayPrints_3 xO_201 iv_11_389 rfl (sh_81 _ _ _) rfl rfl rfl ?_
  refine c_body (by omega) (by first | omega | (simp only [sA_same, sA_s, ud_s, Int.reduceEq, if_true, if_false, ite_true, ite_false, ↓reduceIte, and_true, true_and, eq_self, Int.add_zero, Int.reduceAdd]; omega) | (simp (disch := omega) only [sA_same, sA_ne, ud_eq, ud_ne, Int.add_zero, Int.reduceAdd]; omega)) ?_
  (try simp (disch := omega) only [sA_same, sA_ne, sA_sA, sA_sr, sB_s, ud_eq, ud_ne, ud_ud, ud_sr, uB_s, Int.add_zero, Int.reduceAdd])
  refine v_aload_n (n := 7) xB_201 dX11_trayPrints_6 rfl rfl ?_
  refine v_iload_n (n := 8) xB_201 dX11_trayPrints_7 rfl rfl ?_
  refine v_iload_n (n := 9) xB_201 dX11_trayPrints_8 rfl rfl ?_
  refine v_call_v (n := 12) xB_201 dX11_trayPrints_9 xO_201 iv_11_395 rfl (sh_81 _ _ _) rfl rfl rfl ?_
  refine c_feedsAct (by omega) (by first | omega | (simp only [sA_same, sA_s, ud_s, Int.reduceEq, if_true, if_false, ite_true, ite_false, ↓reduceIte, and_true, true_and, eq_self, Int.add_zero, Int.reduceAdd]; omega) | (simp (disch := omega) only [sA_same, sA_ne, ud_eq, ud_ne, Int.add_zero, Int.reduceAdd]; omega)) (by first | omega | (simp only [sA_same, sA_s, ud_s, Int.reduceEq, if_true, if_false, ite_true, ite_false, ↓reduceIte, and_true, true_and, eq_self, Int.add_zero, Int.reduceAdd]; omega) | (simp (disch := omega) only [sA_same, sA_ne, ud_eq, ud_ne, Int.add_zero, Int.reduceAdd]; omega)) (by first | omega | (simp only [sA_same, sA_s, ud_s, Int.reduceEq, if_true, if_false, ite_true, ite_false, ↓reduceIte, and_true, true_and, eq_self, Int.add_zero, Int.reduceAdd]; omega) | (simp (disch := omega) only [sA_same, sA_ne, ud_eq, ud_ne, Int.add_zero, Int.reduceAdd]; omega)) ?_
  (try simp (disch := omega) only [sA_same, sA_ne, sA_sA, sA_sr, sB_s, ud_eq, ud_ne, ud_ud, ud_sr, uB_s, Int.add_zero, Int.reduceAdd])
  refine v_aload_n (n := 13) xB_201 dX11_trayPrints_12 rfl rfl ?_
  refine v_gf_s (n := 16) (kz := 2) xB_201 dX11_trayPrints_13 xO_201 fl_11_17 fg_11_2 (sh_81 _ _ _) rfl st_81_2 rfl ?_
  refine v_iload_n (n := 17) xB_201 dX11_trayPrints_16 rfl rfl ?_
  refine v_iaload (n := 18) (lz := 5) xB_201 dX11_trayPrints_17 (sh_83 _ _ _) rfl (by first | omega | (simp only [sA_same, sA_s, ud_s, Int.reduceEq, if_true, if_false, ite_true, ite_false, ↓reduceIte, and_true, true_and, eq_self, Int.add_zero, Int.reduceAdd]; omega) | (simp (disch := omega) only [sA_same, sA_ne, ud_eq, ud_ne, Int.add_zero, Int.reduceAdd]; omega)) rfl ?_
  refine v_isubw (n := 19) xB_201 dX11_trayPrints_18 rfl ?_
  refine v_ireturn0 xB_201 dX11_trayPrints_19 xK_201 ?_
  exact o1
set_option maxHeartbeats 1000000 in
theorem c_flippingPrints {d : Nat} {i x : Int} {m : PM} {dy : List (Nat × Nat)} {L : Nat} {Q : Option PV → PS → Prop} (hd : 5 ≤ d) (ht : 0 ≤ i ∧ i < 5) (hr : 0 ≤ m 81 63 ∧ m 81 63 + 4 ≤ 20) (h82 : 0 ≤ m 82 i ∧ m 82 i ≤ 6) (o1 : Q (some (.inl (fpV (m 82 i) i (m 83 i) x))) (setA (setA m 81 (ud (m 81) 63 (rsL (m 81 63) (20 :: 11 :: fL (m 82 i))))) 124 (ap (m 124) (m 81 63) (20 :: 11 :: fL (m 82 i))), (none, (dy, L)))) : C d 202 [.inr (.inr 81), .inl i, .inl x] (m, (none, (dy, L))) Q := by
  refine C_go (k := 4) hd xL_202 (fun d hd => ?_)
  show V d 202 (0, ([some (.inr (.inr 81)), some (.inl i), some (.inl x)], ([], (m, (none, (dy, L)))))) Q
  refine v_aload_n (n := 1) xB_202 dX11_flippingPrints_0 rfl rfl ?_
  refine v_bipush (n := 3) xB_202 dX11_flippingPrints_1 ⟨by decide, by decide⟩ rfl ?_
  refine v_call_v (n := 6) xB_202 dX11_flippingPrints_3 xO_202 iv_11_389 rfl (sh_81 _ _ _) rfl rfl rfl ?_
  refine c_body (by omega) (by first | omega | (simp only [sA_same, sA_s, ud_s, Int.reduceEq, if_true, if_false, ite_true, ite_false, ↓reduceIte, and_true, true_and, eq_self, Int.add_zero, Int.reduceAdd]; omega) | (simp (disch := omega) only [sA_same, sA_ne, ud_eq, ud_ne, Int.add_zero, Int.reduceAdd]; omega)) ?_
  (try simp (disch := omega) only [sA_same, sA_ne, sA_sA, sA_sr, sB_s, ud_eq, ud_ne, ud_ud, ud_sr, uB_s, Int.add_zero, Int.reduceAdd])
  refine v_aload_n (n := 7) xB_202 dX11_flippingPrints_6 rfl rfl ?_
  refine v_iload_n (n := 8) xB_202 dX11_flippingPrints_7 rfl rfl ?_
  refine v_iload_n (n := 9) xB_202 dX11_flippingPrints_8 rfl rfl ?_
  refine v_call_v (n := 12) xB_202 dX11_flippingPrints_9 xO_202 iv_11_398 rfl (sh_81 _ _ _) rfl rfl rfl ?_
  refine c_trayPrints (by omega) (by first | omega | (simp only [sA_same, sA_s, ud_s, Int.reduceEq, if_true, if_false, ite_true, ite_false, ↓reduceIte, and_true, true_and, eq_self, Int.add_zero, Int.reduceAdd]; omega) | (simp (disch := omega) only [sA_same, sA_ne, ud_eq, ud_ne, Int.add_zero, Int.reduceAdd]; omega)) (by first | omega | (simp only [sA_same, sA_s, ud_s, Int.reduceEq, if_true, if_false, ite_true, ite_false, ↓reduceIte, and_true, true_and, eq_self, Int.add_zero, Int.reduceAdd]; omega) | (simp (disch := omega) only [sA_same, sA_ne, ud_eq, ud_ne, Int.add_zero, Int.reduceAdd]; omega)) (by first | omega | (simp only [sA_same, sA_s, ud_s, Int.reduceEq, if_true, if_false, ite_true, ite_false, ↓reduceIte, and_true, true_and, eq_self, Int.add_zero, Int.reduceAdd]; omega) | (simp (disch := omega) only [sA_same, sA_ne, ud_eq, ud_ne, Int.add_zero, Int.reduceAdd]; omega)) ?_
  (try simp (disch := omega) only [sA_same, sA_ne, sA_sA, sA_sr, sB_s, ud_eq, ud_ne, ud_ud, ud_sr, uB_s, Int.add_zero, Int.reduceAdd])
  refine v_bipush (n := 14) xB_202 dX11_flippingPrints_12 ⟨by decide, by decide⟩ rfl ?_
  refine v_ixor (n := 15) xB_202 dX11_flippingPrints_14 rfl ?_
  refine v_ireturn0 xB_202 dX11_flippingPrints_15 xK_202 ?_
  exact o1
set_option maxHeartbeats 1000000 in
theorem c_printsAct {d : Nat} {i x : Int} {m : PM} {dy : List (Nat × Nat)} {L : Nat} {Q : Option PV → PS → Prop} (hd : 6 ≤ d) (ht : 0 ≤ i ∧ i < 5) (hr : 0 ≤ m 81 63 ∧ m 81 63 + 5 ≤ 20) (h82 : 0 ≤ m 82 i ∧ m 82 i ≤ 6) (o1 : Q (some (.inl (pV (m 82 i) i (m 83 i) x))) (setA (setA m 81 (ud (m 81) 63 (rsL (m 81 63) (pL (m 82 i))))) 124 (ap (m 124) (m 81 63) (pL (m 82 i))), (none, (dy, L)))) : C d 203 [.inr (.inr 81), .inl i, .inl x] (m, (none, (dy, L))) Q := by
  refine C_go (k := 5) hd xL_203 (fun d hd => ?_)
  show V d 203 (0, ([some (.inr (.inr 81)), some (.inl i), some (.inl x), none], ([], (m, (none, (dy, L)))))) Q
  rcases (by omega : m 82 i = 0 ∨ m 82 i = 1 ∨ m 82 i = 2 ∨ m 82 i = 3 ∨ m 82 i = 4 ∨ m 82 i = 5 ∨ m 82 i = 6) with hk | hk | hk | hk | hk | hk | hk
  · rw [hk] at o1
    refine v_aload_n (n := 1) xB_203 dX11_printsAct_0 rfl rfl ?_
    refine v_gf_s (n := 4) (kz := 1) xB_203 dX11_printsAct_1 xO_203 fl_11_13 fg_11_1 (sh_81 _ _ _) rfl st_81_1 rfl ?_
    refine v_iload_n (n := 5) xB_203 dX11_printsAct_4 rfl rfl ?_
    refine v_iaload (n := 6) (lz := 5) xB_203 dX11_printsAct_5 (sh_82 _ _ _) rfl (by first | omega | (simp only [sA_same, sA_s, ud_s, Int.reduceEq, if_true, if_false, ite_true, ite_false, ↓reduceIte, and_true, true_and, eq_self, Int.add_zero, Int.reduceAdd]; omega) | (simp (disch := omega) only [sA_same, sA_ne, ud_eq, ud_ne, Int.add_zero, Int.reduceAdd]; omega)) rfl ?_
    refine v_lsw xB_203 dX11_printsAct_6 rfl ?_
    refine lsp_c (fun g1 => ?_) (fun g1 => ?_)
    · refine jm_go (t := 40) (by decide) rfl ?_
      exfalso; omega
    refine lsp_c (fun g2 => ?_) (fun g2 => ?_)
    · refine jm_go (t := 47) (by decide) rfl ?_
      exfalso; omega
    refine lsp_c (fun g3 => ?_) (fun g3 => ?_)
    · refine jm_go (t := 62) (by decide) rfl ?_
      exfalso; omega
    refine lsp_n ?_
    refine jm_go (t := 84) (by decide) rfl ?_
    refine v_aload_n (n := 85) xB_203 dX11_printsAct_84 rfl rfl ?_
    refine v_iload_n (n := 86) xB_203 dX11_printsAct_85 rfl rfl ?_
    refine v_iload_n (n := 87) xB_203 dX11_printsAct_86 rfl rfl ?_
    refine v_call_v (n := 90) xB_203 dX11_printsAct_87 xO_203 iv_11_398 rfl (sh_81 _ _ _) rfl rfl rfl ?_
    refine c_trayPrints (by omega) (by first | omega | (simp only [sA_same, sA_s, ud_s, Int.reduceEq, if_true, if_false, ite_true, ite_false, ↓reduceIte, and_true, true_and, eq_self, Int.add_zero, Int.reduceAdd]; omega) | (simp (disch := omega) only [sA_same, sA_ne, ud_eq, ud_ne, Int.add_zero, Int.reduceAdd]; omega)) (by first | omega | (simp only [sA_same, sA_s, ud_s, Int.reduceEq, if_true, if_false, ite_true, ite_false, ↓reduceIte, and_true, true_and, eq_self, Int.add_zero, Int.reduceAdd]; omega) | (simp (disch := omega) only [sA_same, sA_ne, ud_eq, ud_ne, Int.add_zero, Int.reduceAdd]; omega)) (by first | omega | (simp only [sA_same, sA_s, ud_s, Int.reduceEq, if_true, if_false, ite_true, ite_false, ↓reduceIte, and_true, true_and, eq_self, Int.add_zero, Int.reduceAdd]; omega) | (simp (disch := omega) only [sA_same, sA_ne, ud_eq, ud_ne, Int.add_zero, Int.reduceAdd]; omega)) ?_
    (try simp (disch := omega) only [sA_same, sA_ne, sA_sA, sA_sr, sB_s, ud_eq, ud_ne, ud_ud, ud_sr, uB_s, Int.add_zero, Int.reduceAdd])
    refine v_ireturn0 xB_203 dX11_printsAct_90 xK_203 ?_
    (try rw [hk])
    first | exact o1 | (rw [show (70 :: 11 :: (fL 6 ++ [10])) = (70 :: 11 :: fL 6) ++ [10] from rfl, rsL_app, ap_app] at o1; exact o1)
  · rw [hk] at o1
    refine v_aload_n (n := 1) xB_203 dX11_printsAct_0 rfl rfl ?_
    refine v_gf_s (n := 4) (kz := 1) xB_203 dX11_printsAct_1 xO_203 fl_11_13 fg_11_1 (sh_81 _ _ _) rfl st_81_1 rfl ?_
    refine v_iload_n (n := 5) xB_203 dX11_printsAct_4 rfl rfl ?_
    refine v_iaload (n := 6) (lz := 5) xB_203 dX11_printsAct_5 (sh_82 _ _ _) rfl (by first | omega | (simp only [sA_same, sA_s, ud_s, Int.reduceEq, if_true, if_false, ite_true, ite_false, ↓reduceIte, and_true, true_and, eq_self, Int.add_zero, Int.reduceAdd]; omega) | (simp (disch := omega) only [sA_same, sA_ne, ud_eq, ud_ne, Int.add_zero, Int.reduceAdd]; omega)) rfl ?_
    refine v_lsw xB_203 dX11_printsAct_6 rfl ?_
    refine lsp_c (fun g1 => ?_) (fun g1 => ?_)
    · refine jm_go (t := 40) (by decide) rfl ?_
      refine v_aload_n (n := 41) xB_203 dX11_printsAct_40 rfl rfl ?_
      refine v_iload_n (n := 42) xB_203 dX11_printsAct_41 rfl rfl ?_
      refine v_iload_n (n := 43) xB_203 dX11_printsAct_42 rfl rfl ?_
      refine v_call_v (n := 46) xB_203 dX11_printsAct_43 xO_203 iv_11_401 rfl (sh_81 _ _ _) rfl rfl rfl ?_
      refine c_flippingPrints (by omega) (by first | omega | (simp only [sA_same, sA_s, ud_s, Int.reduceEq, if_true, if_false, ite_true, ite_false, ↓reduceIte, and_true, true_and, eq_self, Int.add_zero, Int.reduceAdd]; omega) | (simp (disch := omega) only [sA_same, sA_ne, ud_eq, ud_ne, Int.add_zero, Int.reduceAdd]; omega)) (by first | omega | (simp only [sA_same, sA_s, ud_s, Int.reduceEq, if_true, if_false, ite_true, ite_false, ↓reduceIte, and_true, true_and, eq_self, Int.add_zero, Int.reduceAdd]; omega) | (simp (disch := omega) only [sA_same, sA_ne, ud_eq, ud_ne, Int.add_zero, Int.reduceAdd]; omega)) (by first | omega | (simp only [sA_same, sA_s, ud_s, Int.reduceEq, if_true, if_false, ite_true, ite_false, ↓reduceIte, and_true, true_and, eq_self, Int.add_zero, Int.reduceAdd]; omega) | (simp (disch := omega) only [sA_same, sA_ne, ud_eq, ud_ne, Int.add_zero, Int.reduceAdd]; omega)) ?_
      (try simp (disch := omega) only [sA_same, sA_ne, sA_sA, sA_sr, sB_s, ud_eq, ud_ne, ud_ud, ud_sr, uB_s, Int.add_zero, Int.reduceAdd])
      refine v_ireturn0 xB_203 dX11_printsAct_46 xK_203 ?_
      (try rw [hk])
      first | exact o1 | (rw [show (70 :: 11 :: (fL 6 ++ [10])) = (70 :: 11 :: fL 6) ++ [10] from rfl, rsL_app, ap_app] at o1; exact o1)
    refine lsp_c (fun g2 => ?_) (fun g2 => ?_)
    · refine jm_go (t := 47) (by decide) rfl ?_
      exfalso; omega
    refine lsp_c (fun g3 => ?_) (fun g3 => ?_)
    · refine jm_go (t := 62) (by decide) rfl ?_
      exfalso; omega
    refine lsp_n ?_
    refine jm_go (t := 84) (by decide) rfl ?_
    exfalso; omega
  · rw [hk] at o1
    refine v_aload_n (n := 1) xB_203 dX11_printsAct_0 rfl rfl ?_
    refine v_gf_s (n := 4) (kz := 1) xB_203 dX11_printsAct_1 xO_203 fl_11_13 fg_11_1 (sh_81 _ _ _) rfl st_81_1 rfl ?_
    refine v_iload_n (n := 5) xB_203 dX11_printsAct_4 rfl rfl ?_
    refine v_iaload (n := 6) (lz := 5) xB_203 dX11_printsAct_5 (sh_82 _ _ _) rfl (by first | omega | (simp only [sA_same, sA_s, ud_s, Int.reduceEq, if_true, if_false, ite_true, ite_false, ↓reduceIte, and_true, true_and, eq_self, Int.add_zero, Int.reduceAdd]; omega) | (simp (disch := omega) only [sA_same, sA_ne, ud_eq, ud_ne, Int.add_zero, Int.reduceAdd]; omega)) rfl ?_
    refine v_lsw xB_203 dX11_printsAct_6 rfl ?_
    refine lsp_c (fun g1 => ?_) (fun g1 => ?_)
    · refine jm_go (t := 40) (by decide) rfl ?_
      exfalso; omega
    refine lsp_c (fun g2 => ?_) (fun g2 => ?_)
    · refine jm_go (t := 47) (by decide) rfl ?_
      exfalso; omega
    refine lsp_c (fun g3 => ?_) (fun g3 => ?_)
    · refine jm_go (t := 62) (by decide) rfl ?_
      exfalso; omega
    refine lsp_n ?_
    refine jm_go (t := 84) (by decide) rfl ?_
    refine v_aload_n (n := 85) xB_203 dX11_printsAct_84 rfl rfl ?_
    refine v_iload_n (n := 86) xB_203 dX11_printsAct_85 rfl rfl ?_
    refine v_iload_n (n := 87) xB_203 dX11_printsAct_86 rfl rfl ?_
    refine v_call_v (n := 90) xB_203 dX11_printsAct_87 xO_203 iv_11_398 rfl (sh_81 _ _ _) rfl rfl rfl ?_
    refine c_trayPrints (by omega) (by first | omega | (simp only [sA_same, sA_s, ud_s, Int.reduceEq, if_true, if_false, ite_true, ite_false, ↓reduceIte, and_true, true_and, eq_self, Int.add_zero, Int.reduceAdd]; omega) | (simp (disch := omega) only [sA_same, sA_ne, ud_eq, ud_ne, Int.add_zero, Int.reduceAdd]; omega)) (by first | omega | (simp only [sA_same, sA_s, ud_s, Int.reduceEq, if_true, if_false, ite_true, ite_false, ↓reduceIte, and_true, true_and, eq_self, Int.add_zero, Int.reduceAdd]; omega) | (simp (disch := omega) only [sA_same, sA_ne, ud_eq, ud_ne, Int.add_zero, Int.reduceAdd]; omega)) (by first | omega | (simp only [sA_same, sA_s, ud_s, Int.reduceEq, if_true, if_false, ite_true, ite_false, ↓reduceIte, and_true, true_and, eq_self, Int.add_zero, Int.reduceAdd]; omega) | (simp (disch := omega) only [sA_same, sA_ne, ud_eq, ud_ne, Int.add_zero, Int.reduceAdd]; omega)) ?_
    (try simp (disch := omega) only [sA_same, sA_ne, sA_sA, sA_sr, sB_s, ud_eq, ud_ne, ud_ud, ud_sr, uB_s, Int.add_zero, Int.reduceAdd])
    refine v_ireturn0 xB_203 dX11_printsAct_90 xK_203 ?_
    (try rw [hk])
    first | exact o1 | (rw [show (70 :: 11 :: (fL 6 ++ [10])) = (70 :: 11 :: fL 6) ++ [10] from rfl, rsL_app, ap_app] at o1; exact o1)
  · rw [hk] at o1
    refine v_aload_n (n := 1) xB_203 dX11_printsAct_0 rfl rfl ?_
    refine v_gf_s (n := 4) (kz := 1) xB_203 dX11_printsAct_1 xO_203 fl_11_13 fg_11_1 (sh_81 _ _ _) rfl st_81_1 rfl ?_
    refine v_iload_n (n := 5) xB_203 dX11_printsAct_4 rfl rfl ?_
    refine v_iaload (n := 6) (lz := 5) xB_203 dX11_printsAct_5 (sh_82 _ _ _) rfl (by first | omega | (simp only [sA_same, sA_s, ud_s, Int.reduceEq, if_true, if_false, ite_true, ite_false, ↓reduceIte, and_true, true_and, eq_self, Int.add_zero, Int.reduceAdd]; omega) | (simp (disch := omega) only [sA_same, sA_ne, ud_eq, ud_ne, Int.add_zero, Int.reduceAdd]; omega)) rfl ?_
    refine v_lsw xB_203 dX11_printsAct_6 rfl ?_
    refine lsp_c (fun g1 => ?_) (fun g1 => ?_)
    · refine jm_go (t := 40) (by decide) rfl ?_
      exfalso; omega
    refine lsp_c (fun g2 => ?_) (fun g2 => ?_)
    · refine jm_go (t := 47) (by decide) rfl ?_
      exfalso; omega
    refine lsp_c (fun g3 => ?_) (fun g3 => ?_)
    · refine jm_go (t := 62) (by decide) rfl ?_
      exfalso; omega
    refine lsp_n ?_
    refine jm_go (t := 84) (by decide) rfl ?_
    refine v_aload_n (n := 85) xB_203 dX11_printsAct_84 rfl rfl ?_
    refine v_iload_n (n := 86) xB_203 dX11_printsAct_85 rfl rfl ?_
    refine v_iload_n (n := 87) xB_203 dX11_printsAct_86 rfl rfl ?_
    refine v_call_v (n := 90) xB_203 dX11_printsAct_87 xO_203 iv_11_398 rfl (sh_81 _ _ _) rfl rfl rfl ?_
    refine c_trayPrints (by omega) (by first | omega | (simp only [sA_same, sA_s, ud_s, Int.reduceEq, if_true, if_false, ite_true, ite_false, ↓reduceIte, and_true, true_and, eq_self, Int.add_zero, Int.reduceAdd]; omega) | (simp (disch := omega) only [sA_same, sA_ne, ud_eq, ud_ne, Int.add_zero, Int.reduceAdd]; omega)) (by first | omega | (simp only [sA_same, sA_s, ud_s, Int.reduceEq, if_true, if_false, ite_true, ite_false, ↓reduceIte, and_true, true_and, eq_self, Int.add_zero, Int.reduceAdd]; omega) | (simp (disch := omega) only [sA_same, sA_ne, ud_eq, ud_ne, Int.add_zero, Int.reduceAdd]; omega)) (by first | omega | (simp only [sA_same, sA_s, ud_s, Int.reduceEq, if_true, if_false, ite_true, ite_false, ↓reduceIte, and_true, true_and, eq_self, Int.add_zero, Int.reduceAdd]; omega) | (simp (disch := omega) only [sA_same, sA_ne, ud_eq, ud_ne, Int.add_zero, Int.reduceAdd]; omega)) ?_
    (try simp (disch := omega) only [sA_same, sA_ne, sA_sA, sA_sr, sB_s, ud_eq, ud_ne, ud_ud, ud_sr, uB_s, Int.add_zero, Int.reduceAdd])
    refine v_ireturn0 xB_203 dX11_printsAct_90 xK_203 ?_
    (try rw [hk])
    first | exact o1 | (rw [show (70 :: 11 :: (fL 6 ++ [10])) = (70 :: 11 :: fL 6) ++ [10] from rfl, rsL_app, ap_app] at o1; exact o1)
  · rw [hk] at o1
    refine v_aload_n (n := 1) xB_203 dX11_printsAct_0 rfl rfl ?_
    refine v_gf_s (n := 4) (kz := 1) xB_203 dX11_printsAct_1 xO_203 fl_11_13 fg_11_1 (sh_81 _ _ _) rfl st_81_1 rfl ?_
    refine v_iload_n (n := 5) xB_203 dX11_printsAct_4 rfl rfl ?_
    refine v_iaload (n := 6) (lz := 5) xB_203 dX11_printsAct_5 (sh_82 _ _ _) rfl (by first | omega | (simp only [sA_same, sA_s, ud_s, Int.reduceEq, if_true, if_false, ite_true, ite_false, ↓reduceIte, and_true, true_and, eq_self, Int.add_zero, Int.reduceAdd]; omega) | (simp (disch := omega) only [sA_same, sA_ne, ud_eq, ud_ne, Int.add_zero, Int.reduceAdd]; omega)) rfl ?_
    refine v_lsw xB_203 dX11_printsAct_6 rfl ?_
    refine lsp_c (fun g1 => ?_) (fun g1 => ?_)
    · refine jm_go (t := 40) (by decide) rfl ?_
      exfalso; omega
    refine lsp_c (fun g2 => ?_) (fun g2 => ?_)
    · refine jm_go (t := 47) (by decide) rfl ?_
      refine v_aload_n (n := 48) xB_203 dX11_printsAct_47 rfl rfl ?_
      refine v_bipush (n := 50) xB_203 dX11_printsAct_48 ⟨by decide, by decide⟩ rfl ?_
      refine v_call_v (n := 53) xB_203 dX11_printsAct_50 xO_203 iv_11_389 rfl (sh_81 _ _ _) rfl rfl rfl ?_
      refine c_body (by omega) (by first | omega | (simp only [sA_same, sA_s, ud_s, Int.reduceEq, if_true, if_false, ite_true, ite_false, ↓reduceIte, and_true, true_and, eq_self, Int.add_zero, Int.reduceAdd]; omega) | (simp (disch := omega) only [sA_same, sA_ne, ud_eq, ud_ne, Int.add_zero, Int.reduceAdd]; omega)) ?_
      (try simp (disch := omega) only [sA_same, sA_ne, sA_sA, sA_sr, sB_s, ud_eq, ud_ne, ud_ud, ud_sr, uB_s, Int.add_zero, Int.reduceAdd])
      refine v_aload_n (n := 54) xB_203 dX11_printsAct_53 rfl rfl ?_
      refine v_iload_n (n := 55) xB_203 dX11_printsAct_54 rfl rfl ?_
      refine v_iload_n (n := 56) xB_203 dX11_printsAct_55 rfl rfl ?_
      refine v_iconst (n := 57) xB_203 dX11_printsAct_56 ⟨by decide, by decide⟩ rfl ?_
      refine v_iaddw (n := 58) xB_203 dX11_printsAct_57 rfl ?_
      refine v_call_v (n := 61) xB_203 dX11_printsAct_58 xO_203 iv_11_401 rfl (sh_81 _ _ _) rfl rfl rfl ?_
      refine c_flippingPrints (by omega) (by first | omega | (simp only [sA_same, sA_s, ud_s, Int.reduceEq, if_true, if_false, ite_true, ite_false, ↓reduceIte, and_true, true_and, eq_self, Int.add_zero, Int.reduceAdd]; omega) | (simp (disch := omega) only [sA_same, sA_ne, ud_eq, ud_ne, Int.add_zero, Int.reduceAdd]; omega)) (by first | omega | (simp only [sA_same, sA_s, ud_s, Int.reduceEq, if_true, if_false, ite_true, ite_false, ↓reduceIte, and_true, true_and, eq_self, Int.add_zero, Int.reduceAdd]; omega) | (simp (disch := omega) only [sA_same, sA_ne, ud_eq, ud_ne, Int.add_zero, Int.reduceAdd]; omega)) (by first | omega | (simp only [sA_same, sA_s, ud_s, Int.reduceEq, if_true, if_false, ite_true, ite_false, ↓reduceIte, and_true, true_and, eq_self, Int.add_zero, Int.reduceAdd]; omega) | (simp (disch := omega) only [sA_same, sA_ne, ud_eq, ud_ne, Int.add_zero, Int.reduceAdd]; omega)) ?_
      (try simp (disch := omega) only [sA_same, sA_ne, sA_sA, sA_sr, sB_s, ud_eq, ud_ne, ud_ud, ud_sr, uB_s, Int.add_zero, Int.reduceAdd])
      refine v_ireturn0 xB_203 dX11_printsAct_61 xK_203 ?_
      (try rw [hk])
      first | exact o1 | (rw [show (70 :: 11 :: (fL 6 ++ [10])) = (70 :: 11 :: fL 6) ++ [10] from rfl, rsL_app, ap_app] at o1; exact o1)
    refine lsp_c (fun g3 => ?_) (fun g3 => ?_)
    · refine jm_go (t := 62) (by decide) rfl ?_
      exfalso; omega
    refine lsp_n ?_
    refine jm_go (t := 84) (by decide) rfl ?_
    exfalso; omega
  · rw [hk] at o1
    refine v_aload_n (n := 1) xB_203 dX11_printsAct_0 rfl rfl ?_
    refine v_gf_s (n := 4) (kz := 1) xB_203 dX11_printsAct_1 xO_203 fl_11_13 fg_11_1 (sh_81 _ _ _) rfl st_81_1 rfl ?_
    refine v_iload_n (n := 5) xB_203 dX11_printsAct_4 rfl rfl ?_
    refine v_iaload (n := 6) (lz := 5) xB_203 dX11_printsAct_5 (sh_82 _ _ _) rfl (by first | omega | (simp only [sA_same, sA_s, ud_s, Int.reduceEq, if_true, if_false, ite_true, ite_false, ↓reduceIte, and_true, true_and, eq_self, Int.add_zero, Int.reduceAdd]; omega) | (simp (disch := omega) only [sA_same, sA_ne, ud_eq, ud_ne, Int.add_zero, Int.reduceAdd]; omega)) rfl ?_
    refine v_lsw xB_203 dX11_printsAct_6 rfl ?_
    refine lsp_c (fun g1 => ?_) (fun g1 => ?_)
    · refine jm_go (t := 40) (by decide) rfl ?_
      exfalso; omega
    refine lsp_c (fun g2 => ?_) (fun g2 => ?_)
    · refine jm_go (t := 47) (by decide) rfl ?_
      exfalso; omega
    refine lsp_c (fun g3 => ?_) (fun g3 => ?_)
    · refine jm_go (t := 62) (by decide) rfl ?_
      exfalso; omega
    refine lsp_n ?_
    refine jm_go (t := 84) (by decide) rfl ?_
    refine v_aload_n (n := 85) xB_203 dX11_printsAct_84 rfl rfl ?_
    refine v_iload_n (n := 86) xB_203 dX11_printsAct_85 rfl rfl ?_
    refine v_iload_n (n := 87) xB_203 dX11_printsAct_86 rfl rfl ?_
    refine v_call_v (n := 90) xB_203 dX11_printsAct_87 xO_203 iv_11_398 rfl (sh_81 _ _ _) rfl rfl rfl ?_
    refine c_trayPrints (by omega) (by first | omega | (simp only [sA_same, sA_s, ud_s, Int.reduceEq, if_true, if_false, ite_true, ite_false, ↓reduceIte, and_true, true_and, eq_self, Int.add_zero, Int.reduceAdd]; omega) | (simp (disch := omega) only [sA_same, sA_ne, ud_eq, ud_ne, Int.add_zero, Int.reduceAdd]; omega)) (by first | omega | (simp only [sA_same, sA_s, ud_s, Int.reduceEq, if_true, if_false, ite_true, ite_false, ↓reduceIte, and_true, true_and, eq_self, Int.add_zero, Int.reduceAdd]; omega) | (simp (disch := omega) only [sA_same, sA_ne, ud_eq, ud_ne, Int.add_zero, Int.reduceAdd]; omega)) (by first | omega | (simp only [sA_same, sA_s, ud_s, Int.reduceEq, if_true, if_false, ite_true, ite_false, ↓reduceIte, and_true, true_and, eq_self, Int.add_zero, Int.reduceAdd]; omega) | (simp (disch := omega) only [sA_same, sA_ne, ud_eq, ud_ne, Int.add_zero, Int.reduceAdd]; omega)) ?_
    (try simp (disch := omega) only [sA_same, sA_ne, sA_sA, sA_sr, sB_s, ud_eq, ud_ne, ud_ud, ud_sr, uB_s, Int.add_zero, Int.reduceAdd])
    refine v_ireturn0 xB_203 dX11_printsAct_90 xK_203 ?_
    (try rw [hk])
    first | exact o1 | (rw [show (70 :: 11 :: (fL 6 ++ [10])) = (70 :: 11 :: fL 6) ++ [10] from rfl, rsL_app, ap_app] at o1; exact o1)
  · rw [hk] at o1
    refine v_aload_n (n := 1) xB_203 dX11_printsAct_0 rfl rfl ?_
    refine v_gf_s (n := 4) (kz := 1) xB_203 dX11_printsAct_1 xO_203 fl_11_13 fg_11_1 (sh_81 _ _ _) rfl st_81_1 rfl ?_
    refine v_iload_n (n := 5) xB_203 dX11_printsAct_4 rfl rfl ?_
    refine v_iaload (n := 6) (lz := 5) xB_203 dX11_printsAct_5 (sh_82 _ _ _) rfl (by first | omega | (simp only [sA_same, sA_s, ud_s, Int.reduceEq, if_true, if_false, ite_true, ite_false, ↓reduceIte, and_true, true_and, eq_self, Int.add_zero, Int.reduceAdd]; omega) | (simp (disch := omega) only [sA_same, sA_ne, ud_eq, ud_ne, Int.add_zero, Int.reduceAdd]; omega)) rfl ?_
    refine v_lsw xB_203 dX11_printsAct_6 rfl ?_
    refine lsp_c (fun g1 => ?_) (fun g1 => ?_)
    · refine jm_go (t := 40) (by decide) rfl ?_
      exfalso; omega
    refine lsp_c (fun g2 => ?_) (fun g2 => ?_)
    · refine jm_go (t := 47) (by decide) rfl ?_
      exfalso; omega
    refine lsp_c (fun g3 => ?_) (fun g3 => ?_)
    · refine jm_go (t := 62) (by decide) rfl ?_
      refine v_aload_n (n := 63) xB_203 dX11_printsAct_62 rfl rfl ?_
      refine v_bipush (n := 65) xB_203 dX11_printsAct_63 ⟨by decide, by decide⟩ rfl ?_
      refine v_call_v (n := 68) xB_203 dX11_printsAct_65 xO_203 iv_11_389 rfl (sh_81 _ _ _) rfl rfl rfl ?_
      refine c_body (by omega) (by first | omega | (simp only [sA_same, sA_s, ud_s, Int.reduceEq, if_true, if_false, ite_true, ite_false, ↓reduceIte, and_true, true_and, eq_self, Int.add_zero, Int.reduceAdd]; omega) | (simp (disch := omega) only [sA_same, sA_ne, ud_eq, ud_ne, Int.add_zero, Int.reduceAdd]; omega)) ?_
      (try simp (disch := omega) only [sA_same, sA_ne, sA_sA, sA_sr, sB_s, ud_eq, ud_ne, ud_ud, ud_sr, uB_s, Int.add_zero, Int.reduceAdd])
      refine v_aload_n (n := 69) xB_203 dX11_printsAct_68 rfl rfl ?_
      refine v_iload_n (n := 70) xB_203 dX11_printsAct_69 rfl rfl ?_
      refine v_iload_n (n := 71) xB_203 dX11_printsAct_70 rfl rfl ?_
      refine v_call_v (n := 74) xB_203 dX11_printsAct_71 xO_203 iv_11_398 rfl (sh_81 _ _ _) rfl rfl rfl ?_
      refine c_trayPrints (by omega) (by first | omega | (simp only [sA_same, sA_s, ud_s, Int.reduceEq, if_true, if_false, ite_true, ite_false, ↓reduceIte, and_true, true_and, eq_self, Int.add_zero, Int.reduceAdd]; omega) | (simp (disch := omega) only [sA_same, sA_ne, ud_eq, ud_ne, Int.add_zero, Int.reduceAdd]; omega)) (by first | omega | (simp only [sA_same, sA_s, ud_s, Int.reduceEq, if_true, if_false, ite_true, ite_false, ↓reduceIte, and_true, true_and, eq_self, Int.add_zero, Int.reduceAdd]; omega) | (simp (disch := omega) only [sA_same, sA_ne, ud_eq, ud_ne, Int.add_zero, Int.reduceAdd]; omega)) (by first | omega | (simp only [sA_same, sA_s, ud_s, Int.reduceEq, if_true, if_false, ite_true, ite_false, ↓reduceIte, and_true, true_and, eq_self, Int.add_zero, Int.reduceAdd]; omega) | (simp (disch := omega) only [sA_same, sA_ne, ud_eq, ud_ne, Int.add_zero, Int.reduceAdd]; omega)) ?_
      (try simp (disch := omega) only [sA_same, sA_ne, sA_sA, sA_sr, sB_s, ud_eq, ud_ne, ud_ud, ud_sr, uB_s, Int.add_zero, Int.reduceAdd])
      refine v_istore_n3 (n := 75) xB_203 dX11_printsAct_74 rfl rfl ?_
      refine v_iload_n (n := 76) xB_203 dX11_printsAct_75 rfl rfl ?_
      refine v_aload_n (n := 77) xB_203 dX11_printsAct_76 rfl rfl ?_
      refine v_iload_n (n := 78) xB_203 dX11_printsAct_77 rfl rfl ?_
      refine v_iconst (n := 79) xB_203 dX11_printsAct_78 ⟨by decide, by decide⟩ rfl ?_
      refine v_call_v (n := 82) xB_203 dX11_printsAct_79 xO_203 iv_11_392 rfl (sh_81 _ _ _) rfl rfl rfl ?_
      refine c_trayFeeds (by omega) (by first | omega | (simp only [sA_same, sA_s, ud_s, Int.reduceEq, if_true, if_false, ite_true, ite_false, ↓reduceIte, and_true, true_and, eq_self, Int.add_zero, Int.reduceAdd]; omega) | (simp (disch := omega) only [sA_same, sA_ne, ud_eq, ud_ne, Int.add_zero, Int.reduceAdd]; omega)) (by have q := rsL_n (11 :: fL (m 82 i)) (m 81 63 + 1); have q2 := fL_len (m 82 i); have q3 := pL_len (m 82 i); simp only [List.length_cons, List.length_append, List.length_nil] at q; simp (disch := omega) only [sA_ne, sA_same, ud_eq, ud_ne]; omega) ?_
      (try simp (disch := omega) only [sA_same, sA_ne, sA_sA, sA_sr, sB_s, ud_eq, ud_ne, ud_ud, ud_sr, uB_s, Int.add_zero, Int.reduceAdd])
      refine v_iaddw (n := 83) xB_203 dX11_printsAct_82 rfl ?_
      refine v_ireturn0 xB_203 dX11_printsAct_83 xK_203 ?_
      (try rw [hk])
      first | exact o1 | (rw [show (70 :: 11 :: (fL 6 ++ [10])) = (70 :: 11 :: fL 6) ++ [10] from rfl, rsL_app, ap_app] at o1; exact o1)
    refine lsp_n ?_
    refine jm_go (t := 84) (by decide) rfl ?_
    exfalso; omega
set_option maxHeartbeats 1000000 in
theorem c_trayTells {d : Nat} {i x : Int} {m : PM} {dy : List (Nat × Nat)} {L : Nat} {Q : Option PV → PS → Prop} (hd : 7 ≤ d) (ht : 0 ≤ i ∧ i < 5) (hr : 0 ≤ m 81 63 ∧ m 81 63 + 6 ≤ 20) (h82 : 0 ≤ m 82 i ∧ m 82 i ≤ 6) (o1 : Q (some (.inl (ttV (m 82 i) i (m 83 i) x))) (setA (setA m 81 (ud (m 81) 63 (rsL (m 81 63) (12 :: pL (m 82 i))))) 124 (ap (m 124) (m 81 63) (12 :: pL (m 82 i))), (none, (dy, L)))) : C d 204 [.inr (.inr 81), .inl i, .inl x] (m, (none, (dy, L))) Q := by
  refine C_go (k := 6) hd xL_204 (fun d hd => ?_)
  show V d 204 (0, ([some (.inr (.inr 81)), some (.inl i), some (.inl x)], ([], (m, (none, (dy, L)))))) Q
  refine v_aload_n (n := 1) xB_204 dX11_trayTells_0 rfl rfl ?_
  refine v_bipush (n := 3) xB_204 dX11_trayTells_1 ⟨by decide, by decide⟩ rfl ?_
  refine v_call_v (n := 6) xB_204 dX11_trayTells_3 xO_204 iv_11_389 rfl (sh_81 _ _ _) rfl rfl rfl ?_
  refine c_body (by omega) (by first | omega | (simp only [sA_same, sA_s, ud_s, Int.reduceEq, if_true, if_false, ite_true, ite_false, ↓reduceIte, and_true, true_and, eq_self, Int.add_zero, Int.reduceAdd]; omega) | (simp (disch := omega) only [sA_same, sA_ne, ud_eq, ud_ne, Int.add_zero, Int.reduceAdd]; omega)) ?_
  (try simp (disch := omega) only [sA_same, sA_ne, sA_sA, sA_sr, sB_s, ud_eq, ud_ne, ud_ud, ud_sr, uB_s, Int.add_zero, Int.reduceAdd])
  refine v_aload_n (n := 7) xB_204 dX11_trayTells_6 rfl rfl ?_
  refine v_iload_n (n := 8) xB_204 dX11_trayTells_7 rfl rfl ?_
  refine v_iload_n (n := 9) xB_204 dX11_trayTells_8 rfl rfl ?_
  refine v_call_v (n := 12) xB_204 dX11_trayTells_9 xO_204 iv_11_404 rfl (sh_81 _ _ _) rfl rfl rfl ?_
  refine c_printsAct (by omega) (by first | omega | (simp only [sA_same, sA_s, ud_s, Int.reduceEq, if_true, if_false, ite_true, ite_false, ↓reduceIte, and_true, true_and, eq_self, Int.add_zero, Int.reduceAdd]; omega) | (simp (disch := omega) only [sA_same, sA_ne, ud_eq, ud_ne, Int.add_zero, Int.reduceAdd]; omega)) (by first | omega | (simp only [sA_same, sA_s, ud_s, Int.reduceEq, if_true, if_false, ite_true, ite_false, ↓reduceIte, and_true, true_and, eq_self, Int.add_zero, Int.reduceAdd]; omega) | (simp (disch := omega) only [sA_same, sA_ne, ud_eq, ud_ne, Int.add_zero, Int.reduceAdd]; omega)) (by first | omega | (simp only [sA_same, sA_s, ud_s, Int.reduceEq, if_true, if_false, ite_true, ite_false, ↓reduceIte, and_true, true_and, eq_self, Int.add_zero, Int.reduceAdd]; omega) | (simp (disch := omega) only [sA_same, sA_ne, ud_eq, ud_ne, Int.add_zero, Int.reduceAdd]; omega)) ?_
  (try simp (disch := omega) only [sA_same, sA_ne, sA_sA, sA_sr, sB_s, ud_eq, ud_ne, ud_ud, ud_sr, uB_s, Int.add_zero, Int.reduceAdd])
  refine v_iconst (n := 13) xB_204 dX11_trayTells_12 ⟨by decide, by decide⟩ rfl ?_
  refine v_imulw (n := 14) xB_204 dX11_trayTells_13 rfl ?_
  refine v_ireturn0 xB_204 dX11_trayTells_14 xK_204 ?_
  exact o1
set_option maxHeartbeats 1000000 in
theorem c_tellsAct {d : Nat} {i x : Int} {m : PM} {dy : List (Nat × Nat)} {L : Nat} {Q : Option PV → PS → Prop} (hd : 8 ≤ d) (ht : 0 ≤ i ∧ i < 5) (hr : 0 ≤ m 81 63 ∧ m 81 63 + 12 ≤ 20) (h82 : 0 ≤ m 82 i ∧ m 82 i ≤ 6) (o1 : Q (some (.inl (tV (m 82 i) i (m 83 i) x))) (setA (setA m 81 (ud (m 81) 63 (rsL (m 81 63) (tL (m 82 i))))) 124 (ap (m 124) (m 81 63) (tL (m 82 i))), (none, (dy, L)))) : C d 205 [.inr (.inr 81), .inl i, .inl x] (m, (none, (dy, L))) Q := by
  refine C_go (k := 7) hd xL_205 (fun d hd => ?_)
  show V d 205 (0, ([some (.inr (.inr 81)), some (.inl i), some (.inl x), none], ([], (m, (none, (dy, L)))))) Q
  rcases (by omega : m 82 i = 0 ∨ m 82 i = 1 ∨ m 82 i = 2 ∨ m 82 i = 3 ∨ m 82 i = 4 ∨ m 82 i = 5 ∨ m 82 i = 6) with hk | hk | hk | hk | hk | hk | hk
  · rw [hk] at o1
    refine v_aload_n (n := 1) xB_205 dX11_tellsAct_0 rfl rfl ?_
    refine v_gf_s (n := 4) (kz := 1) xB_205 dX11_tellsAct_1 xO_205 fl_11_13 fg_11_1 (sh_81 _ _ _) rfl st_81_1 rfl ?_
    refine v_iload_n (n := 5) xB_205 dX11_tellsAct_4 rfl rfl ?_
    refine v_iaload (n := 6) (lz := 5) xB_205 dX11_tellsAct_5 (sh_82 _ _ _) rfl (by first | omega | (simp only [sA_same, sA_s, ud_s, Int.reduceEq, if_true, if_false, ite_true, ite_false, ↓reduceIte, and_true, true_and, eq_self, Int.add_zero, Int.reduceAdd]; omega) | (simp (disch := omega) only [sA_same, sA_ne, ud_eq, ud_ne, Int.add_zero, Int.reduceAdd]; omega)) rfl ?_
    refine v_tsw xB_205 dX11_tellsAct_6 rfl ?_
    refine ts_c (lo' := 4) rfl (fun g1 => ?_) (fun g1 => ?_)
    · refine jm_go (t := 36) (by decide) rfl ?_
      exfalso; omega
    refine ts_c (lo' := 5) rfl (fun g2 => ?_) (fun g2 => ?_)
    · refine jm_go (t := 73) (by decide) rfl ?_
      exfalso; omega
    refine ts_c (lo' := 6) rfl (fun g3 => ?_) (fun g3 => ?_)
    · refine jm_go (t := 58) (by decide) rfl ?_
      exfalso; omega
    refine ts_c (lo' := 7) rfl (fun g4 => ?_) (fun g4 => ?_)
    · refine jm_go (t := 36) (by decide) rfl ?_
      exfalso; omega
    refine ts_n ?_
    refine jm_go (t := 73) (by decide) rfl ?_
    refine v_aload_n (n := 74) xB_205 dX11_tellsAct_73 rfl rfl ?_
    refine v_iload_n (n := 75) xB_205 dX11_tellsAct_74 rfl rfl ?_
    refine v_iload_n (n := 76) xB_205 dX11_tellsAct_75 rfl rfl ?_
    refine v_call_v (n := 79) xB_205 dX11_tellsAct_76 xO_205 iv_11_407 rfl (sh_81 _ _ _) rfl rfl rfl ?_
    refine c_trayTells (by omega) (by first | omega | (simp only [sA_same, sA_s, ud_s, Int.reduceEq, if_true, if_false, ite_true, ite_false, ↓reduceIte, and_true, true_and, eq_self, Int.add_zero, Int.reduceAdd]; omega) | (simp (disch := omega) only [sA_same, sA_ne, ud_eq, ud_ne, Int.add_zero, Int.reduceAdd]; omega)) (by first | omega | (simp only [sA_same, sA_s, ud_s, Int.reduceEq, if_true, if_false, ite_true, ite_false, ↓reduceIte, and_true, true_and, eq_self, Int.add_zero, Int.reduceAdd]; omega) | (simp (disch := omega) only [sA_same, sA_ne, ud_eq, ud_ne, Int.add_zero, Int.reduceAdd]; omega)) (by first | omega | (simp only [sA_same, sA_s, ud_s, Int.reduceEq, if_true, if_false, ite_true, ite_false, ↓reduceIte, and_true, true_and, eq_self, Int.add_zero, Int.reduceAdd]; omega) | (simp (disch := omega) only [sA_same, sA_ne, ud_eq, ud_ne, Int.add_zero, Int.reduceAdd]; omega)) ?_
    (try simp (disch := omega) only [sA_same, sA_ne, sA_sA, sA_sr, sB_s, ud_eq, ud_ne, ud_ud, ud_sr, uB_s, Int.add_zero, Int.reduceAdd])
    refine v_ireturn0 xB_205 dX11_tellsAct_79 xK_205 ?_
    (try rw [hk])
    first | exact o1 | (rw [show (40 :: 12 :: (pL 3 ++ pL 3)) = (40 :: 12 :: pL 3) ++ pL 3 from rfl, rsL_app, ap_app] at o1; exact o1) | (rw [show (40 :: 12 :: (pL 6 ++ pL 6)) = (40 :: 12 :: pL 6) ++ pL 6 from rfl, rsL_app, ap_app] at o1; exact o1)
  · rw [hk] at o1
    refine v_aload_n (n := 1) xB_205 dX11_tellsAct_0 rfl rfl ?_
    refine v_gf_s (n := 4) (kz := 1) xB_205 dX11_tellsAct_1 xO_205 fl_11_13 fg_11_1 (sh_81 _ _ _) rfl st_81_1 rfl ?_
    refine v_iload_n (n := 5) xB_205 dX11_tellsAct_4 rfl rfl ?_
    refine v_iaload (n := 6) (lz := 5) xB_205 dX11_tellsAct_5 (sh_82 _ _ _) rfl (by first | omega | (simp only [sA_same, sA_s, ud_s, Int.reduceEq, if_true, if_false, ite_true, ite_false, ↓reduceIte, and_true, true_and, eq_self, Int.add_zero, Int.reduceAdd]; omega) | (simp (disch := omega) only [sA_same, sA_ne, ud_eq, ud_ne, Int.add_zero, Int.reduceAdd]; omega)) rfl ?_
    refine v_tsw xB_205 dX11_tellsAct_6 rfl ?_
    refine ts_c (lo' := 4) rfl (fun g1 => ?_) (fun g1 => ?_)
    · refine jm_go (t := 36) (by decide) rfl ?_
      exfalso; omega
    refine ts_c (lo' := 5) rfl (fun g2 => ?_) (fun g2 => ?_)
    · refine jm_go (t := 73) (by decide) rfl ?_
      exfalso; omega
    refine ts_c (lo' := 6) rfl (fun g3 => ?_) (fun g3 => ?_)
    · refine jm_go (t := 58) (by decide) rfl ?_
      exfalso; omega
    refine ts_c (lo' := 7) rfl (fun g4 => ?_) (fun g4 => ?_)
    · refine jm_go (t := 36) (by decide) rfl ?_
      exfalso; omega
    refine ts_n ?_
    refine jm_go (t := 73) (by decide) rfl ?_
    refine v_aload_n (n := 74) xB_205 dX11_tellsAct_73 rfl rfl ?_
    refine v_iload_n (n := 75) xB_205 dX11_tellsAct_74 rfl rfl ?_
    refine v_iload_n (n := 76) xB_205 dX11_tellsAct_75 rfl rfl ?_
    refine v_call_v (n := 79) xB_205 dX11_tellsAct_76 xO_205 iv_11_407 rfl (sh_81 _ _ _) rfl rfl rfl ?_
    refine c_trayTells (by omega) (by first | omega | (simp only [sA_same, sA_s, ud_s, Int.reduceEq, if_true, if_false, ite_true, ite_false, ↓reduceIte, and_true, true_and, eq_self, Int.add_zero, Int.reduceAdd]; omega) | (simp (disch := omega) only [sA_same, sA_ne, ud_eq, ud_ne, Int.add_zero, Int.reduceAdd]; omega)) (by first | omega | (simp only [sA_same, sA_s, ud_s, Int.reduceEq, if_true, if_false, ite_true, ite_false, ↓reduceIte, and_true, true_and, eq_self, Int.add_zero, Int.reduceAdd]; omega) | (simp (disch := omega) only [sA_same, sA_ne, ud_eq, ud_ne, Int.add_zero, Int.reduceAdd]; omega)) (by first | omega | (simp only [sA_same, sA_s, ud_s, Int.reduceEq, if_true, if_false, ite_true, ite_false, ↓reduceIte, and_true, true_and, eq_self, Int.add_zero, Int.reduceAdd]; omega) | (simp (disch := omega) only [sA_same, sA_ne, ud_eq, ud_ne, Int.add_zero, Int.reduceAdd]; omega)) ?_
    (try simp (disch := omega) only [sA_same, sA_ne, sA_sA, sA_sr, sB_s, ud_eq, ud_ne, ud_ud, ud_sr, uB_s, Int.add_zero, Int.reduceAdd])
    refine v_ireturn0 xB_205 dX11_tellsAct_79 xK_205 ?_
    (try rw [hk])
    first | exact o1 | (rw [show (40 :: 12 :: (pL 3 ++ pL 3)) = (40 :: 12 :: pL 3) ++ pL 3 from rfl, rsL_app, ap_app] at o1; exact o1) | (rw [show (40 :: 12 :: (pL 6 ++ pL 6)) = (40 :: 12 :: pL 6) ++ pL 6 from rfl, rsL_app, ap_app] at o1; exact o1)
  · rw [hk] at o1
    refine v_aload_n (n := 1) xB_205 dX11_tellsAct_0 rfl rfl ?_
    refine v_gf_s (n := 4) (kz := 1) xB_205 dX11_tellsAct_1 xO_205 fl_11_13 fg_11_1 (sh_81 _ _ _) rfl st_81_1 rfl ?_
    refine v_iload_n (n := 5) xB_205 dX11_tellsAct_4 rfl rfl ?_
    refine v_iaload (n := 6) (lz := 5) xB_205 dX11_tellsAct_5 (sh_82 _ _ _) rfl (by first | omega | (simp only [sA_same, sA_s, ud_s, Int.reduceEq, if_true, if_false, ite_true, ite_false, ↓reduceIte, and_true, true_and, eq_self, Int.add_zero, Int.reduceAdd]; omega) | (simp (disch := omega) only [sA_same, sA_ne, ud_eq, ud_ne, Int.add_zero, Int.reduceAdd]; omega)) rfl ?_
    refine v_tsw xB_205 dX11_tellsAct_6 rfl ?_
    refine ts_c (lo' := 4) rfl (fun g1 => ?_) (fun g1 => ?_)
    · refine jm_go (t := 36) (by decide) rfl ?_
      exfalso; omega
    refine ts_c (lo' := 5) rfl (fun g2 => ?_) (fun g2 => ?_)
    · refine jm_go (t := 73) (by decide) rfl ?_
      exfalso; omega
    refine ts_c (lo' := 6) rfl (fun g3 => ?_) (fun g3 => ?_)
    · refine jm_go (t := 58) (by decide) rfl ?_
      exfalso; omega
    refine ts_c (lo' := 7) rfl (fun g4 => ?_) (fun g4 => ?_)
    · refine jm_go (t := 36) (by decide) rfl ?_
      exfalso; omega
    refine ts_n ?_
    refine jm_go (t := 73) (by decide) rfl ?_
    refine v_aload_n (n := 74) xB_205 dX11_tellsAct_73 rfl rfl ?_
    refine v_iload_n (n := 75) xB_205 dX11_tellsAct_74 rfl rfl ?_
    refine v_iload_n (n := 76) xB_205 dX11_tellsAct_75 rfl rfl ?_
    refine v_call_v (n := 79) xB_205 dX11_tellsAct_76 xO_205 iv_11_407 rfl (sh_81 _ _ _) rfl rfl rfl ?_
    refine c_trayTells (by omega) (by first | omega | (simp only [sA_same, sA_s, ud_s, Int.reduceEq, if_true, if_false, ite_true, ite_false, ↓reduceIte, and_true, true_and, eq_self, Int.add_zero, Int.reduceAdd]; omega) | (simp (disch := omega) only [sA_same, sA_ne, ud_eq, ud_ne, Int.add_zero, Int.reduceAdd]; omega)) (by first | omega | (simp only [sA_same, sA_s, ud_s, Int.reduceEq, if_true, if_false, ite_true, ite_false, ↓reduceIte, and_true, true_and, eq_self, Int.add_zero, Int.reduceAdd]; omega) | (simp (disch := omega) only [sA_same, sA_ne, ud_eq, ud_ne, Int.add_zero, Int.reduceAdd]; omega)) (by first | omega | (simp only [sA_same, sA_s, ud_s, Int.reduceEq, if_true, if_false, ite_true, ite_false, ↓reduceIte, and_true, true_and, eq_self, Int.add_zero, Int.reduceAdd]; omega) | (simp (disch := omega) only [sA_same, sA_ne, ud_eq, ud_ne, Int.add_zero, Int.reduceAdd]; omega)) ?_
    (try simp (disch := omega) only [sA_same, sA_ne, sA_sA, sA_sr, sB_s, ud_eq, ud_ne, ud_ud, ud_sr, uB_s, Int.add_zero, Int.reduceAdd])
    refine v_ireturn0 xB_205 dX11_tellsAct_79 xK_205 ?_
    (try rw [hk])
    first | exact o1 | (rw [show (40 :: 12 :: (pL 3 ++ pL 3)) = (40 :: 12 :: pL 3) ++ pL 3 from rfl, rsL_app, ap_app] at o1; exact o1) | (rw [show (40 :: 12 :: (pL 6 ++ pL 6)) = (40 :: 12 :: pL 6) ++ pL 6 from rfl, rsL_app, ap_app] at o1; exact o1)
  · rw [hk] at o1
    refine v_aload_n (n := 1) xB_205 dX11_tellsAct_0 rfl rfl ?_
    refine v_gf_s (n := 4) (kz := 1) xB_205 dX11_tellsAct_1 xO_205 fl_11_13 fg_11_1 (sh_81 _ _ _) rfl st_81_1 rfl ?_
    refine v_iload_n (n := 5) xB_205 dX11_tellsAct_4 rfl rfl ?_
    refine v_iaload (n := 6) (lz := 5) xB_205 dX11_tellsAct_5 (sh_82 _ _ _) rfl (by first | omega | (simp only [sA_same, sA_s, ud_s, Int.reduceEq, if_true, if_false, ite_true, ite_false, ↓reduceIte, and_true, true_and, eq_self, Int.add_zero, Int.reduceAdd]; omega) | (simp (disch := omega) only [sA_same, sA_ne, ud_eq, ud_ne, Int.add_zero, Int.reduceAdd]; omega)) rfl ?_
    refine v_tsw xB_205 dX11_tellsAct_6 rfl ?_
    refine ts_c (lo' := 4) rfl (fun g1 => ?_) (fun g1 => ?_)
    · refine jm_go (t := 36) (by decide) rfl ?_
      refine v_aload_n (n := 37) xB_205 dX11_tellsAct_36 rfl rfl ?_
      refine v_bipush (n := 39) xB_205 dX11_tellsAct_37 ⟨by decide, by decide⟩ rfl ?_
      refine v_call_v (n := 42) xB_205 dX11_tellsAct_39 xO_205 iv_11_389 rfl (sh_81 _ _ _) rfl rfl rfl ?_
      refine c_body (by omega) (by first | omega | (simp only [sA_same, sA_s, ud_s, Int.reduceEq, if_true, if_false, ite_true, ite_false, ↓reduceIte, and_true, true_and, eq_self, Int.add_zero, Int.reduceAdd]; omega) | (simp (disch := omega) only [sA_same, sA_ne, ud_eq, ud_ne, Int.add_zero, Int.reduceAdd]; omega)) ?_
      (try simp (disch := omega) only [sA_same, sA_ne, sA_sA, sA_sr, sB_s, ud_eq, ud_ne, ud_ud, ud_sr, uB_s, Int.add_zero, Int.reduceAdd])
      refine v_aload_n (n := 43) xB_205 dX11_tellsAct_42 rfl rfl ?_
      refine v_iload_n (n := 44) xB_205 dX11_tellsAct_43 rfl rfl ?_
      refine v_iload_n (n := 45) xB_205 dX11_tellsAct_44 rfl rfl ?_
      refine v_call_v (n := 48) xB_205 dX11_tellsAct_45 xO_205 iv_11_407 rfl (sh_81 _ _ _) rfl rfl rfl ?_
      refine c_trayTells (by omega) (by first | omega | (simp only [sA_same, sA_s, ud_s, Int.reduceEq, if_true, if_false, ite_true, ite_false, ↓reduceIte, and_true, true_and, eq_self, Int.add_zero, Int.reduceAdd]; omega) | (simp (disch := omega) only [sA_same, sA_ne, ud_eq, ud_ne, Int.add_zero, Int.reduceAdd]; omega)) (by first | omega | (simp only [sA_same, sA_s, ud_s, Int.reduceEq, if_true, if_false, ite_true, ite_false, ↓reduceIte, and_true, true_and, eq_self, Int.add_zero, Int.reduceAdd]; omega) | (simp (disch := omega) only [sA_same, sA_ne, ud_eq, ud_ne, Int.add_zero, Int.reduceAdd]; omega)) (by first | omega | (simp only [sA_same, sA_s, ud_s, Int.reduceEq, if_true, if_false, ite_true, ite_false, ↓reduceIte, and_true, true_and, eq_self, Int.add_zero, Int.reduceAdd]; omega) | (simp (disch := omega) only [sA_same, sA_ne, ud_eq, ud_ne, Int.add_zero, Int.reduceAdd]; omega)) ?_
      (try simp (disch := omega) only [sA_same, sA_ne, sA_sA, sA_sr, sB_s, ud_eq, ud_ne, ud_ud, ud_sr, uB_s, Int.add_zero, Int.reduceAdd])
      refine v_istore_n3 (n := 49) xB_205 dX11_tellsAct_48 rfl rfl ?_
      refine v_iload_n (n := 50) xB_205 dX11_tellsAct_49 rfl rfl ?_
      refine v_aload_n (n := 51) xB_205 dX11_tellsAct_50 rfl rfl ?_
      refine v_iload_n (n := 52) xB_205 dX11_tellsAct_51 rfl rfl ?_
      refine v_iconst (n := 53) xB_205 dX11_tellsAct_52 ⟨by decide, by decide⟩ rfl ?_
      refine v_call_v (n := 56) xB_205 dX11_tellsAct_53 xO_205 iv_11_404 rfl (sh_81 _ _ _) rfl rfl rfl ?_
      refine c_printsAct (by omega) (by first | omega | (simp only [sA_same, sA_s, ud_s, Int.reduceEq, if_true, if_false, ite_true, ite_false, ↓reduceIte, and_true, true_and, eq_self, Int.add_zero, Int.reduceAdd]; omega) | (simp (disch := omega) only [sA_same, sA_ne, ud_eq, ud_ne, Int.add_zero, Int.reduceAdd]; omega)) (by have q := rsL_n (12 :: pL (m 82 i)) (m 81 63 + 1); have q2 := fL_len (m 82 i); have q3 := pL_len (m 82 i); simp only [List.length_cons, List.length_append, List.length_nil] at q; simp (disch := omega) only [sA_ne, sA_same, ud_eq, ud_ne]; omega) (by first | omega | (simp only [sA_same, sA_s, ud_s, Int.reduceEq, if_true, if_false, ite_true, ite_false, ↓reduceIte, and_true, true_and, eq_self, Int.add_zero, Int.reduceAdd]; omega) | (simp (disch := omega) only [sA_same, sA_ne, ud_eq, ud_ne, Int.add_zero, Int.reduceAdd]; omega)) ?_
      (try simp (disch := omega) only [sA_same, sA_ne, sA_sA, sA_sr, sB_s, ud_eq, ud_ne, ud_ud, ud_sr, uB_s, Int.add_zero, Int.reduceAdd])
      refine v_iaddw (n := 57) xB_205 dX11_tellsAct_56 rfl ?_
      refine v_ireturn0 xB_205 dX11_tellsAct_57 xK_205 ?_
      (try rw [hk])
      first | exact o1 | (rw [show (40 :: 12 :: (pL 3 ++ pL 3)) = (40 :: 12 :: pL 3) ++ pL 3 from rfl, rsL_app, ap_app] at o1; exact o1) | (rw [show (40 :: 12 :: (pL 6 ++ pL 6)) = (40 :: 12 :: pL 6) ++ pL 6 from rfl, rsL_app, ap_app] at o1; exact o1)
    refine ts_c (lo' := 5) rfl (fun g2 => ?_) (fun g2 => ?_)
    · refine jm_go (t := 73) (by decide) rfl ?_
      exfalso; omega
    refine ts_c (lo' := 6) rfl (fun g3 => ?_) (fun g3 => ?_)
    · refine jm_go (t := 58) (by decide) rfl ?_
      exfalso; omega
    refine ts_c (lo' := 7) rfl (fun g4 => ?_) (fun g4 => ?_)
    · refine jm_go (t := 36) (by decide) rfl ?_
      exfalso; omega
    refine ts_n ?_
    refine jm_go (t := 73) (by decide) rfl ?_
    exfalso; omega
  · rw [hk] at o1
    refine v_aload_n (n := 1) xB_205 dX11_tellsAct_0 rfl rfl ?_
    refine v_gf_s (n := 4) (kz := 1) xB_205 dX11_tellsAct_1 xO_205 fl_11_13 fg_11_1 (sh_81 _ _ _) rfl st_81_1 rfl ?_
    refine v_iload_n (n := 5) xB_205 dX11_tellsAct_4 rfl rfl ?_
    refine v_iaload (n := 6) (lz := 5) xB_205 dX11_tellsAct_5 (sh_82 _ _ _) rfl (by first | omega | (simp only [sA_same, sA_s, ud_s, Int.reduceEq, if_true, if_false, ite_true, ite_false, ↓reduceIte, and_true, true_and, eq_self, Int.add_zero, Int.reduceAdd]; omega) | (simp (disch := omega) only [sA_same, sA_ne, ud_eq, ud_ne, Int.add_zero, Int.reduceAdd]; omega)) rfl ?_
    refine v_tsw xB_205 dX11_tellsAct_6 rfl ?_
    refine ts_c (lo' := 4) rfl (fun g1 => ?_) (fun g1 => ?_)
    · refine jm_go (t := 36) (by decide) rfl ?_
      exfalso; omega
    refine ts_c (lo' := 5) rfl (fun g2 => ?_) (fun g2 => ?_)
    · refine jm_go (t := 73) (by decide) rfl ?_
      refine v_aload_n (n := 74) xB_205 dX11_tellsAct_73 rfl rfl ?_
      refine v_iload_n (n := 75) xB_205 dX11_tellsAct_74 rfl rfl ?_
      refine v_iload_n (n := 76) xB_205 dX11_tellsAct_75 rfl rfl ?_
      refine v_call_v (n := 79) xB_205 dX11_tellsAct_76 xO_205 iv_11_407 rfl (sh_81 _ _ _) rfl rfl rfl ?_
      refine c_trayTells (by omega) (by first | omega | (simp only [sA_same, sA_s, ud_s, Int.reduceEq, if_true, if_false, ite_true, ite_false, ↓reduceIte, and_true, true_and, eq_self, Int.add_zero, Int.reduceAdd]; omega) | (simp (disch := omega) only [sA_same, sA_ne, ud_eq, ud_ne, Int.add_zero, Int.reduceAdd]; omega)) (by first | omega | (simp only [sA_same, sA_s, ud_s, Int.reduceEq, if_true, if_false, ite_true, ite_false, ↓reduceIte, and_true, true_and, eq_self, Int.add_zero, Int.reduceAdd]; omega) | (simp (disch := omega) only [sA_same, sA_ne, ud_eq, ud_ne, Int.add_zero, Int.reduceAdd]; omega)) (by first | omega | (simp only [sA_same, sA_s, ud_s, Int.reduceEq, if_true, if_false, ite_true, ite_false, ↓reduceIte, and_true, true_and, eq_self, Int.add_zero, Int.reduceAdd]; omega) | (simp (disch := omega) only [sA_same, sA_ne, ud_eq, ud_ne, Int.add_zero, Int.reduceAdd]; omega)) ?_
      (try simp (disch := omega) only [sA_same, sA_ne, sA_sA, sA_sr, sB_s, ud_eq, ud_ne, ud_ud, ud_sr, uB_s, Int.add_zero, Int.reduceAdd])
      refine v_ireturn0 xB_205 dX11_tellsAct_79 xK_205 ?_
      (try rw [hk])
      first | exact o1 | (rw [show (40 :: 12 :: (pL 3 ++ pL 3)) = (40 :: 12 :: pL 3) ++ pL 3 from rfl, rsL_app, ap_app] at o1; exact o1) | (rw [show (40 :: 12 :: (pL 6 ++ pL 6)) = (40 :: 12 :: pL 6) ++ pL 6 from rfl, rsL_app, ap_app] at o1; exact o1)
    refine ts_c (lo' := 6) rfl (fun g3 => ?_) (fun g3 => ?_)
    · refine jm_go (t := 58) (by decide) rfl ?_
      exfalso; omega
    refine ts_c (lo' := 7) rfl (fun g4 => ?_) (fun g4 => ?_)
    · refine jm_go (t := 36) (by decide) rfl ?_
      exfalso; omega
    refine ts_n ?_
    refine jm_go (t := 73) (by decide) rfl ?_
    exfalso; omega
  · rw [hk] at o1
    refine v_aload_n (n := 1) xB_205 dX11_tellsAct_0 rfl rfl ?_
    refine v_gf_s (n := 4) (kz := 1) xB_205 dX11_tellsAct_1 xO_205 fl_11_13 fg_11_1 (sh_81 _ _ _) rfl st_81_1 rfl ?_
    refine v_iload_n (n := 5) xB_205 dX11_tellsAct_4 rfl rfl ?_
    refine v_iaload (n := 6) (lz := 5) xB_205 dX11_tellsAct_5 (sh_82 _ _ _) rfl (by first | omega | (simp only [sA_same, sA_s, ud_s, Int.reduceEq, if_true, if_false, ite_true, ite_false, ↓reduceIte, and_true, true_and, eq_self, Int.add_zero, Int.reduceAdd]; omega) | (simp (disch := omega) only [sA_same, sA_ne, ud_eq, ud_ne, Int.add_zero, Int.reduceAdd]; omega)) rfl ?_
    refine v_tsw xB_205 dX11_tellsAct_6 rfl ?_
    refine ts_c (lo' := 4) rfl (fun g1 => ?_) (fun g1 => ?_)
    · refine jm_go (t := 36) (by decide) rfl ?_
      exfalso; omega
    refine ts_c (lo' := 5) rfl (fun g2 => ?_) (fun g2 => ?_)
    · refine jm_go (t := 73) (by decide) rfl ?_
      exfalso; omega
    refine ts_c (lo' := 6) rfl (fun g3 => ?_) (fun g3 => ?_)
    · refine jm_go (t := 58) (by decide) rfl ?_
      refine v_aload_n (n := 59) xB_205 dX11_tellsAct_58 rfl rfl ?_
      refine v_bipush (n := 61) xB_205 dX11_tellsAct_59 ⟨by decide, by decide⟩ rfl ?_
      refine v_call_v (n := 64) xB_205 dX11_tellsAct_61 xO_205 iv_11_389 rfl (sh_81 _ _ _) rfl rfl rfl ?_
      refine c_body (by omega) (by first | omega | (simp only [sA_same, sA_s, ud_s, Int.reduceEq, if_true, if_false, ite_true, ite_false, ↓reduceIte, and_true, true_and, eq_self, Int.add_zero, Int.reduceAdd]; omega) | (simp (disch := omega) only [sA_same, sA_ne, ud_eq, ud_ne, Int.add_zero, Int.reduceAdd]; omega)) ?_
      (try simp (disch := omega) only [sA_same, sA_ne, sA_sA, sA_sr, sB_s, ud_eq, ud_ne, ud_ud, ud_sr, uB_s, Int.add_zero, Int.reduceAdd])
      refine v_aload_n (n := 65) xB_205 dX11_tellsAct_64 rfl rfl ?_
      refine v_iload_n (n := 66) xB_205 dX11_tellsAct_65 rfl rfl ?_
      refine v_iload_n (n := 67) xB_205 dX11_tellsAct_66 rfl rfl ?_
      refine v_iload_n (n := 68) xB_205 dX11_tellsAct_67 rfl rfl ?_
      refine v_isubw (n := 69) xB_205 dX11_tellsAct_68 rfl ?_
      refine v_call_v (n := 72) xB_205 dX11_tellsAct_69 xO_205 iv_11_407 rfl (sh_81 _ _ _) rfl rfl rfl ?_
      refine c_trayTells (by omega) (by first | omega | (simp only [sA_same, sA_s, ud_s, Int.reduceEq, if_true, if_false, ite_true, ite_false, ↓reduceIte, and_true, true_and, eq_self, Int.add_zero, Int.reduceAdd]; omega) | (simp (disch := omega) only [sA_same, sA_ne, ud_eq, ud_ne, Int.add_zero, Int.reduceAdd]; omega)) (by first | omega | (simp only [sA_same, sA_s, ud_s, Int.reduceEq, if_true, if_false, ite_true, ite_false, ↓reduceIte, and_true, true_and, eq_self, Int.add_zero, Int.reduceAdd]; omega) | (simp (disch := omega) only [sA_same, sA_ne, ud_eq, ud_ne, Int.add_zero, Int.reduceAdd]; omega)) (by first | omega | (simp only [sA_same, sA_s, ud_s, Int.reduceEq, if_true, if_false, ite_true, ite_false, ↓reduceIte, and_true, true_and, eq_self, Int.add_zero, Int.reduceAdd]; omega) | (simp (disch := omega) only [sA_same, sA_ne, ud_eq, ud_ne, Int.add_zero, Int.reduceAdd]; omega)) ?_
      (try simp (disch := omega) only [sA_same, sA_ne, sA_sA, sA_sr, sB_s, ud_eq, ud_ne, ud_ud, ud_sr, uB_s, Int.add_zero, Int.reduceAdd])
      refine v_ireturn0 xB_205 dX11_tellsAct_72 xK_205 ?_
      (try rw [hk])
      first | exact o1 | (rw [show (40 :: 12 :: (pL 3 ++ pL 3)) = (40 :: 12 :: pL 3) ++ pL 3 from rfl, rsL_app, ap_app] at o1; exact o1) | (rw [show (40 :: 12 :: (pL 6 ++ pL 6)) = (40 :: 12 :: pL 6) ++ pL 6 from rfl, rsL_app, ap_app] at o1; exact o1)
    refine ts_c (lo' := 7) rfl (fun g4 => ?_) (fun g4 => ?_)
    · refine jm_go (t := 36) (by decide) rfl ?_
      exfalso; omega
    refine ts_n ?_
    refine jm_go (t := 73) (by decide) rfl ?_
    exfalso; omega
  · rw [hk] at o1
    refine v_aload_n (n := 1) xB_205 dX11_tellsAct_0 rfl rfl ?_
    refine v_gf_s (n := 4) (kz := 1) xB_205 dX11_tellsAct_1 xO_205 fl_11_13 fg_11_1 (sh_81 _ _ _) rfl st_81_1 rfl ?_
    refine v_iload_n (n := 5) xB_205 dX11_tellsAct_4 rfl rfl ?_
    refine v_iaload (n := 6) (lz := 5) xB_205 dX11_tellsAct_5 (sh_82 _ _ _) rfl (by first | omega | (simp only [sA_same, sA_s, ud_s, Int.reduceEq, if_true, if_false, ite_true, ite_false, ↓reduceIte, and_true, true_and, eq_self, Int.add_zero, Int.reduceAdd]; omega) | (simp (disch := omega) only [sA_same, sA_ne, ud_eq, ud_ne, Int.add_zero, Int.reduceAdd]; omega)) rfl ?_
    refine v_tsw xB_205 dX11_tellsAct_6 rfl ?_
    refine ts_c (lo' := 4) rfl (fun g1 => ?_) (fun g1 => ?_)
    · refine jm_go (t := 36) (by decide) rfl ?_
      exfalso; omega
    refine ts_c (lo' := 5) rfl (fun g2 => ?_) (fun g2 => ?_)
    · refine jm_go (t := 73) (by decide) rfl ?_
      exfalso; omega
    refine ts_c (lo' := 6) rfl (fun g3 => ?_) (fun g3 => ?_)
    · refine jm_go (t := 58) (by decide) rfl ?_
      exfalso; omega
    refine ts_c (lo' := 7) rfl (fun g4 => ?_) (fun g4 => ?_)
    · refine jm_go (t := 36) (by decide) rfl ?_
      refine v_aload_n (n := 37) xB_205 dX11_tellsAct_36 rfl rfl ?_
      refine v_bipush (n := 39) xB_205 dX11_tellsAct_37 ⟨by decide, by decide⟩ rfl ?_
      refine v_call_v (n := 42) xB_205 dX11_tellsAct_39 xO_205 iv_11_389 rfl (sh_81 _ _ _) rfl rfl rfl ?_
      refine c_body (by omega) (by first | omega | (simp only [sA_same, sA_s, ud_s, Int.reduceEq, if_true, if_false, ite_true, ite_false, ↓reduceIte, and_true, true_and, eq_self, Int.add_zero, Int.reduceAdd]; omega) | (simp (disch := omega) only [sA_same, sA_ne, ud_eq, ud_ne, Int.add_zero, Int.reduceAdd]; omega)) ?_
      (try simp (disch := omega) only [sA_same, sA_ne, sA_sA, sA_sr, sB_s, ud_eq, ud_ne, ud_ud, ud_sr, uB_s, Int.add_zero, Int.reduceAdd])
      refine v_aload_n (n := 43) xB_205 dX11_tellsAct_42 rfl rfl ?_
      refine v_iload_n (n := 44) xB_205 dX11_tellsAct_43 rfl rfl ?_
      refine v_iload_n (n := 45) xB_205 dX11_tellsAct_44 rfl rfl ?_
      refine v_call_v (n := 48) xB_205 dX11_tellsAct_45 xO_205 iv_11_407 rfl (sh_81 _ _ _) rfl rfl rfl ?_
      refine c_trayTells (by omega) (by first | omega | (simp only [sA_same, sA_s, ud_s, Int.reduceEq, if_true, if_false, ite_true, ite_false, ↓reduceIte, and_true, true_and, eq_self, Int.add_zero, Int.reduceAdd]; omega) | (simp (disch := omega) only [sA_same, sA_ne, ud_eq, ud_ne, Int.add_zero, Int.reduceAdd]; omega)) (by first | omega | (simp only [sA_same, sA_s, ud_s, Int.reduceEq, if_true, if_false, ite_true, ite_false, ↓reduceIte, and_true, true_and, eq_self, Int.add_zero, Int.reduceAdd]; omega) | (simp (disch := omega) only [sA_same, sA_ne, ud_eq, ud_ne, Int.add_zero, Int.reduceAdd]; omega)) (by first | omega | (simp only [sA_same, sA_s, ud_s, Int.reduceEq, if_true, if_false, ite_true, ite_false, ↓reduceIte, and_true, true_and, eq_self, Int.add_zero, Int.reduceAdd]; omega) | (simp (disch := omega) only [sA_same, sA_ne, ud_eq, ud_ne, Int.add_zero, Int.reduceAdd]; omega)) ?_
      (try simp (disch := omega) only [sA_same, sA_ne, sA_sA, sA_sr, sB_s, ud_eq, ud_ne, ud_ud, ud_sr, uB_s, Int.add_zero, Int.reduceAdd])
      refine v_istore_n3 (n := 49) xB_205 dX11_tellsAct_48 rfl rfl ?_
      refine v_iload_n (n := 50) xB_205 dX11_tellsAct_49 rfl rfl ?_
      refine v_aload_n (n := 51) xB_205 dX11_tellsAct_50 rfl rfl ?_
      refine v_iload_n (n := 52) xB_205 dX11_tellsAct_51 rfl rfl ?_
      refine v_iconst (n := 53) xB_205 dX11_tellsAct_52 ⟨by decide, by decide⟩ rfl ?_
      refine v_call_v (n := 56) xB_205 dX11_tellsAct_53 xO_205 iv_11_404 rfl (sh_81 _ _ _) rfl rfl rfl ?_
      refine c_printsAct (by omega) (by first | omega | (simp only [sA_same, sA_s, ud_s, Int.reduceEq, if_true, if_false, ite_true, ite_false, ↓reduceIte, and_true, true_and, eq_self, Int.add_zero, Int.reduceAdd]; omega) | (simp (disch := omega) only [sA_same, sA_ne, ud_eq, ud_ne, Int.add_zero, Int.reduceAdd]; omega)) (by have q := rsL_n (12 :: pL (m 82 i)) (m 81 63 + 1); have q2 := fL_len (m 82 i); have q3 := pL_len (m 82 i); simp only [List.length_cons, List.length_append, List.length_nil] at q; simp (disch := omega) only [sA_ne, sA_same, ud_eq, ud_ne]; omega) (by first | omega | (simp only [sA_same, sA_s, ud_s, Int.reduceEq, if_true, if_false, ite_true, ite_false, ↓reduceIte, and_true, true_and, eq_self, Int.add_zero, Int.reduceAdd]; omega) | (simp (disch := omega) only [sA_same, sA_ne, ud_eq, ud_ne, Int.add_zero, Int.reduceAdd]; omega)) ?_
      (try simp (disch := omega) only [sA_same, sA_ne, sA_sA, sA_sr, sB_s, ud_eq, ud_ne, ud_ud, ud_sr, uB_s, Int.add_zero, Int.reduceAdd])
      refine v_iaddw (n := 57) xB_205 dX11_tellsAct_56 rfl ?_
      refine v_ireturn0 xB_205 dX11_tellsAct_57 xK_205 ?_
      (try rw [hk])
      first | exact o1 | (rw [show (40 :: 12 :: (pL 3 ++ pL 3)) = (40 :: 12 :: pL 3) ++ pL 3 from rfl, rsL_app, ap_app] at o1; exact o1) | (rw [show (40 :: 12 :: (pL 6 ++ pL 6)) = (40 :: 12 :: pL 6) ++ pL 6 from rfl, rsL_app, ap_app] at o1; exact o1)
    refine ts_n ?_
    refine jm_go (t := 73) (by decide) rfl ?_
    exfalso; omega
