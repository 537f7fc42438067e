/-! The class: texts of the language, signs, numbers, words. -/
set_option maxHeartbeats 1000000 in
theorem j_isLatin1 {d : Nat} {o : Int} {σ : PS} {Q : Option PV → PS → Prop} (hd : 1 ≤ d) (hs : o = -10 ∨ o = -11 ∨ o = -12) (o1 : Q (some (.inl 1)) σ) : C d 221 [.inr (.inr o)] σ Q := by
  refine C_go (k := 0) hd xL_221 (fun d hd => ?_)
  show V d 221 (0, ([some (.inr (.inr o))], ([], σ))) Q
  refine v_gst_1 (n := 3) xB_221 dJ0_isLatin1_aae02_0 xO_221 gs_12_38 rfl ?_
  refine v_if_eq_n (n := 6) xB_221 dJ0_isLatin1_aae02_3 (by decide) rfl (by decide) ?_
  refine v_aload_n (n := 7) xB_221 dJ0_isLatin1_aae02_6 rfl rfl ?_
  refine v_gf_s1 (n := 10) xB_221 dJ0_isLatin1_aae02_7 xO_221 fl_12_15 sf_12_15 (by first | omega | (simp only [sA_same, sA_s, ud_s, Int.reduceEq, if_true, if_false, ite_true, ite_false, ↓reduceIte, and_true, true_and, eq_self, Int.add_zero, Int.reduceAdd]; omega) | (simp (disch := omega) only [sA_same, sA_ne, ud_eq, ud_ne, Int.add_zero, Int.reduceAdd]; omega)) rfl ?_
  refine v_if_ne_n (n := 13) xB_221 dJ0_isLatin1_aae02_10 (by decide) rfl (by decide) ?_
  refine v_iconst (n := 14) xB_221 dJ0_isLatin1_aae02_13 ⟨by decide, by decide⟩ rfl ?_
  refine v_goto (t := 18) xB_221 dJ0_isLatin1_aae02_14 (by decide) rfl ?_
  refine v_ireturn1 xB_221 dJ0_isLatin1_aae02_18 xK_221 (by decide) ?_
  exact o1
set_option maxHeartbeats 1000000 in
theorem j_coder {d : Nat} {o : Int} {σ : PS} {Q : Option PV → PS → Prop} (hd : 1 ≤ d) (hs : o = -10 ∨ o = -11 ∨ o = -12) (o1 : Q (some (.inl 0)) σ) : C d 220 [.inr (.inr o)] σ Q := by
  refine C_go (k := 0) hd xL_220 (fun d hd => ?_)
  show V d 220 (0, ([some (.inr (.inr o))], ([], σ))) Q
  refine v_gst_1 (n := 3) xB_220 dJ0_coder_7d493_0 xO_220 gs_12_38 rfl ?_
  refine v_if_eq_n (n := 6) xB_220 dJ0_coder_7d493_3 (by decide) rfl (by decide) ?_
  refine v_aload_n (n := 7) xB_220 dJ0_coder_7d493_6 rfl rfl ?_
  refine v_gf_s1 (n := 10) xB_220 dJ0_coder_7d493_7 xO_220 fl_12_15 sf_12_15 (by first | omega | (simp only [sA_same, sA_s, ud_s, Int.reduceEq, if_true, if_false, ite_true, ite_false, ↓reduceIte, and_true, true_and, eq_self, Int.add_zero, Int.reduceAdd]; omega) | (simp (disch := omega) only [sA_same, sA_ne, ud_eq, ud_ne, Int.add_zero, Int.reduceAdd]; omega)) rfl ?_
  refine v_goto (t := 14) xB_220 dJ0_coder_7d493_10 (by decide) rfl ?_
  refine v_ireturn2 xB_220 dJ0_coder_7d493_14 xK_220 (by decide) ?_
  exact o1
set_option maxHeartbeats 1000000 in
theorem j_length {d : Nat} {o : Int} {ln : Nat} {m : PM} {dy : List (Nat × Nat)} {L : Nat} {Q : Option PV → PS → Prop} (hd : 2 ≤ d) (hs : o = -10 ∨ o = -11 ∨ o = -12) (hsh : shp (m, (none, (dy, L))) (o - 10) = (7, ln)) (o1 : Q (some (.inl (ln : Int))) (m, (none, (dy, L)))) : C d 219 [.inr (.inr o)] (m, (none, (dy, L))) Q := by
  refine C_go (k := 1) hd xL_219 (fun d hd => ?_)
  show V d 219 (0, ([some (.inr (.inr o))], ([], (m, (none, (dy, L)))))) Q
  refine v_aload_n (n := 1) xB_219 dJ0_length_8abf5_0 rfl rfl ?_
  refine v_gf_s0 (n := 4) xB_219 dJ0_length_8abf5_1 xO_219 fl_12_9 sf_12_9 (by first | omega | (simp only [sA_same, sA_s, ud_s, Int.reduceEq, if_true, if_false, ite_true, ite_false, ↓reduceIte, and_true, true_and, eq_self, Int.add_zero, Int.reduceAdd]; omega) | (simp (disch := omega) only [sA_same, sA_ne, ud_eq, ud_ne, Int.add_zero, Int.reduceAdd]; omega)) rfl ?_
  refine v_alen (n := 5) (lz := (ln : Int)) xB_219 dJ0_length_8abf5_4 hsh (by decide) rfl rfl ?_
  refine v_aload_n (n := 6) xB_219 dJ0_length_8abf5_5 rfl rfl ?_
  refine v_call_t (cls := 0) (n := 9) xB_219 dJ0_length_8abf5_6 xO_219 iv_12_335 rfl (by first | omega | (simp only [sA_same, sA_s, ud_s, Int.reduceEq, if_true, if_false, ite_true, ite_false, ↓reduceIte, and_true, true_and, eq_self, Int.add_zero, Int.reduceAdd]; omega) | (simp (disch := omega) only [sA_same, sA_ne, ud_eq, ud_ne, Int.add_zero, Int.reduceAdd]; omega)) rfl rfl rfl ?_
  refine j_coder (by omega) hs ?_
  refine v_ishr (n := 10) (p := 1) xB_219 dJ0_length_8abf5_9 (by decide) (by first | omega | (simp only [sA_same, sA_s, ud_s, Int.reduceEq, if_true, if_false, ite_true, ite_false, ↓reduceIte, and_true, true_and, eq_self, Int.add_zero, Int.reduceAdd]; omega) | (simp (disch := omega) only [sA_same, sA_ne, ud_eq, ud_ne, Int.add_zero, Int.reduceAdd]; omega)) rfl ?_
  refine v_ireturn0 xB_219 dJ0_length_8abf5_10 xK_219 ?_
  first | exact o1 | (rw [Int.ediv_one] at *; exact o1) | (simp only [Int.ediv_one]; exact o1)
set_option maxHeartbeats 1000000 in
theorem j_chk3 {d : Nat} {i n r : Int} {σ : PS} {Q : Option PV → PS → Prop} (hd : 1 ≤ d) (hi : 0 ≤ i ∧ i < n) (o1 : Q (some (.inl i)) σ) : C d 230 [.inl i, .inl n, .inr (.inr r)] σ Q := by
  refine C_go (k := 0) hd xL_230 (fun d hd => ?_)
  show V d 230 (0, ([some (.inl i), some (.inl n), some (.inr (.inr r))], ([], σ))) Q
  refine v_iload_n (n := 1) xB_230 dJ3_checkIndex_8e157_0 rfl rfl ?_
  refine v_if_lt_n (n := 4) xB_230 dJ3_checkIndex_8e157_1 (by decide) rfl (by first | omega | (simp only [sA_same, sA_s, ud_s, Int.reduceEq, if_true, if_false, ite_true, ite_false, ↓reduceIte, and_true, true_and, eq_self, Int.add_zero, Int.reduceAdd]; omega) | (simp (disch := omega) only [sA_same, sA_ne, ud_eq, ud_ne, Int.add_zero, Int.reduceAdd]; omega)) ?_
  refine v_iload_n (n := 5) xB_230 dJ3_checkIndex_8e157_4 rfl rfl ?_
  refine v_iload_n (n := 6) xB_230 dJ3_checkIndex_8e157_5 rfl rfl ?_
  refine v_ic_lt_y (t := 16) xB_230 dJ3_checkIndex_8e157_6 (by decide) rfl (by first | omega | (simp only [sA_same, sA_s, ud_s, Int.reduceEq, if_true, if_false, ite_true, ite_false, ↓reduceIte, and_true, true_and, eq_self, Int.add_zero, Int.reduceAdd]; omega) | (simp (disch := omega) only [sA_same, sA_ne, ud_eq, ud_ne, Int.add_zero, Int.reduceAdd]; omega)) ?_
  refine v_iload_n (n := 17) xB_230 dJ3_checkIndex_8e157_16 rfl rfl ?_
  refine v_ireturn0 xB_230 dJ3_checkIndex_8e157_17 xK_230 ?_
  exact o1
set_option maxHeartbeats 1000000 in
theorem j_chk0 {d : Nat} {i n : Int} {σ : PS} {Q : Option PV → PS → Prop} (hd : 2 ≤ d) (hi : 0 ≤ i ∧ i < n) (o1 : Q (none) σ) : C d 222 [.inl i, .inl n] σ Q := by
  refine C_go (k := 1) hd xL_222 (fun d hd => ?_)
  show V d 222 (0, ([some (.inl i), some (.inl n)], ([], σ))) Q
  refine v_iload_n (n := 1) xB_222 dJ0_checkIndex_df160_0 rfl rfl ?_
  refine v_iload_n (n := 2) xB_222 dJ0_checkIndex_df160_1 rfl rfl ?_
  refine v_gst_2 (n := 5) xB_222 dJ0_checkIndex_df160_2 xO_222 gs_12_1053 rfl ?_
  refine v_call_s (n := 8) xB_222 dJ0_checkIndex_df160_5 xO_222 sp_12_1059 (Or.inl rfl) iv_12_1059 rfl rfl rfl rfl ?_
  refine j_chk3 (by omega) (by first | omega | (simp only [sA_same, sA_s, ud_s, Int.reduceEq, if_true, if_false, ite_true, ite_false, ↓reduceIte, and_true, true_and, eq_self, Int.add_zero, Int.reduceAdd]; omega) | (simp (disch := omega) only [sA_same, sA_ne, ud_eq, ud_ne, Int.add_zero, Int.reduceAdd]; omega)) ?_
  refine v_pop (n := 9) xB_222 dJ0_checkIndex_df160_8 rfl rfl ?_
  refine v_return xB_222 dJ0_checkIndex_df160_9 xK_222 ?_
  exact o1
set_option maxHeartbeats 1000000 in
theorem j_charAt1 {d : Nat} {a i : Int} {ln : Nat} {m : PM} {dy : List (Nat × Nat)} {L : Nat} {Q : Option PV → PS → Prop} (hd : 3 ≤ d) (hsh : shp (m, (none, (dy, L))) a = (7, ln)) (hi : 0 ≤ i ∧ i < ln) (hb : 0 ≤ m a i ∧ m a i < 128) (o1 : Q (some (.inl (m a i))) (m, (none, (dy, L)))) : C d 223 [.inr (.inr a), .inl i] (m, (none, (dy, L))) Q := by
  refine C_go (k := 2) hd xL_223 (fun d hd => ?_)
  show V d 223 (0, ([some (.inr (.inr a)), some (.inl i)], ([], (m, (none, (dy, L)))))) Q
  refine v_iload_n (n := 1) xB_223 dJ1_charAt_3b067_0 rfl rfl ?_
  refine v_aload_n (n := 2) xB_223 dJ1_charAt_3b067_1 rfl rfl ?_
  refine v_alen (n := 3) (lz := (ln : Int)) xB_223 dJ1_charAt_3b067_2 hsh (by decide) rfl rfl ?_
  refine v_call_s (n := 6) xB_223 dJ1_charAt_3b067_3 xO_223 sp_13_9 (Or.inl rfl) iv_13_9 rfl rfl rfl rfl ?_
  refine j_chk0 (by omega) (by first | omega | (simp only [sA_same, sA_s, ud_s, Int.reduceEq, if_true, if_false, ite_true, ite_false, ↓reduceIte, and_true, true_and, eq_self, Int.add_zero, Int.reduceAdd]; omega) | (simp (disch := omega) only [sA_same, sA_ne, ud_eq, ud_ne, Int.add_zero, Int.reduceAdd]; omega)) ?_
  refine v_aload_n (n := 7) xB_223 dJ1_charAt_3b067_6 rfl rfl ?_
  refine v_iload_n (n := 8) xB_223 dJ1_charAt_3b067_7 rfl rfl ?_
  refine v_baload7 (n := 9) (lz := (ln : Int)) xB_223 dJ1_charAt_3b067_8 hsh rfl (by first | omega | (simp only [sA_same, sA_s, ud_s, Int.reduceEq, if_true, if_false, ite_true, ite_false, ↓reduceIte, and_true, true_and, eq_self, Int.add_zero, Int.reduceAdd]; omega) | (simp (disch := omega) only [sA_same, sA_ne, ud_eq, ud_ne, Int.add_zero, Int.reduceAdd]; omega)) rfl ?_
  refine v_sipush (n := 12) xB_223 dJ1_charAt_3b067_9 ⟨by decide, by decide⟩ rfl ?_
  refine v_iand_e (n := 13) xB_223 dJ1_charAt_3b067_12 (iA255 hb.1 (by omega)) rfl ?_
  refine v_i2c (n := 14) xB_223 dJ1_charAt_3b067_13 rfl ?_
  refine v_ireturn3 xB_223 dJ1_charAt_3b067_14 xK_223 (by first | omega | (simp only [sA_same, sA_s, ud_s, Int.reduceEq, if_true, if_false, ite_true, ite_false, ↓reduceIte, and_true, true_and, eq_self, Int.add_zero, Int.reduceAdd]; omega) | (simp (disch := omega) only [sA_same, sA_ne, ud_eq, ud_ne, Int.add_zero, Int.reduceAdd]; omega)) ?_
  rw [show m a i % 256 % 65536 = m a i by omega]
  exact o1
set_option maxHeartbeats 1000000 in
theorem j_charAt {d : Nat} {o i : Int} {ln : Nat} {m : PM} {dy : List (Nat × Nat)} {L : Nat} {Q : Option PV → PS → Prop} (hd : 4 ≤ d) (hs : o = -10 ∨ o = -11 ∨ o = -12) (hsh : shp (m, (none, (dy, L))) (o - 10) = (7, ln)) (hi : 0 ≤ i ∧ i < ln) (hb : 0 ≤ m (o - 10) i ∧ m (o - 10) i < 128) (o1 : Q (some (.inl (m (o - 10) i))) (m, (none, (dy, L)))) : C d 216 [.inr (.inr o), .inl i] (m, (none, (dy, L))) Q := by
  refine C_go (k := 3) hd xL_216 (fun d hd => ?_)
  show V d 216 (0, ([some (.inr (.inr o)), some (.inl i)], ([], (m, (none, (dy, L)))))) Q
  refine v_aload_n (n := 1) xB_216 dJ0_charAt_5068e_0 rfl rfl ?_
  refine v_call_t (cls := 0) (n := 4) xB_216 dJ0_charAt_5068e_1 xO_216 iv_12_492 rfl (by first | omega | (simp only [sA_same, sA_s, ud_s, Int.reduceEq, if_true, if_false, ite_true, ite_false, ↓reduceIte, and_true, true_and, eq_self, Int.add_zero, Int.reduceAdd]; omega) | (simp (disch := omega) only [sA_same, sA_ne, ud_eq, ud_ne, Int.add_zero, Int.reduceAdd]; omega)) rfl rfl rfl ?_
  refine j_isLatin1 (by omega) hs ?_
  refine v_if_eq_n (n := 7) xB_216 dJ0_charAt_5068e_4 (by decide) rfl (by decide) ?_
  refine v_aload_n (n := 8) xB_216 dJ0_charAt_5068e_7 rfl rfl ?_
  refine v_gf_s0 (n := 11) xB_216 dJ0_charAt_5068e_8 xO_216 fl_12_9 sf_12_9 (by first | omega | (simp only [sA_same, sA_s, ud_s, Int.reduceEq, if_true, if_false, ite_true, ite_false, ↓reduceIte, and_true, true_and, eq_self, Int.add_zero, Int.reduceAdd]; omega) | (simp (disch := omega) only [sA_same, sA_ne, ud_eq, ud_ne, Int.add_zero, Int.reduceAdd]; omega)) rfl ?_
  refine v_iload_n (n := 12) xB_216 dJ0_charAt_5068e_11 rfl rfl ?_
  refine v_call_s (n := 15) xB_216 dJ0_charAt_5068e_12 xO_216 sp_12_495 (Or.inl rfl) iv_12_495 rfl rfl rfl rfl ?_
  refine j_charAt1 (by omega) hsh (by first | omega | (simp only [sA_same, sA_s, ud_s, Int.reduceEq, if_true, if_false, ite_true, ite_false, ↓reduceIte, and_true, true_and, eq_self, Int.add_zero, Int.reduceAdd]; omega) | (simp (disch := omega) only [sA_same, sA_ne, ud_eq, ud_ne, Int.add_zero, Int.reduceAdd]; omega)) (by first | omega | (simp only [sA_same, sA_s, ud_s, Int.reduceEq, if_true, if_false, ite_true, ite_false, ↓reduceIte, and_true, true_and, eq_self, Int.add_zero, Int.reduceAdd]; omega) | (simp (disch := omega) only [sA_same, sA_ne, ud_eq, ud_ne, Int.add_zero, Int.reduceAdd]; omega)) ?_
  refine v_ireturn3 xB_216 dJ0_charAt_5068e_15 xK_216 (by first | omega | (simp only [sA_same, sA_s, ud_s, Int.reduceEq, if_true, if_false, ite_true, ite_false, ↓reduceIte, and_true, true_and, eq_self, Int.add_zero, Int.reduceAdd]; omega) | (simp (disch := omega) only [sA_same, sA_ne, ud_eq, ud_ne, Int.add_zero, Int.reduceAdd]; omega)) ?_
  exact o1
set_option maxHeartbeats 1000000 in
theorem j_canEnc {d : Nat} {c : Int} {σ : PS} {Q : Option PV → PS → Prop} (hd : 1 ≤ d) (hc : 0 ≤ c ∧ c < 128) (o1 : Q (some (.inl 1)) σ) : C d 224 [.inl c] σ Q := by
  refine C_go (k := 0) hd xL_224 (fun d hd => ?_)
  show V d 224 (0, ([some (.inl c)], ([], σ))) Q
  refine v_iload_n (n := 1) xB_224 dJ1_canEncode_9a6ad_0 rfl rfl ?_
  refine v_if_lt_n (n := 4) xB_224 dJ1_canEncode_9a6ad_1 (by decide) rfl (by first | omega | (simp only [sA_same, sA_s, ud_s, Int.reduceEq, if_true, if_false, ite_true, ite_false, ↓reduceIte, and_true, true_and, eq_self, Int.add_zero, Int.reduceAdd]; omega) | (simp (disch := omega) only [sA_same, sA_ne, ud_eq, ud_ne, Int.add_zero, Int.reduceAdd]; omega)) ?_
  refine v_iload_n (n := 5) xB_224 dJ1_canEncode_9a6ad_4 rfl rfl ?_
  refine v_sipush (n := 8) xB_224 dJ1_canEncode_9a6ad_5 ⟨by decide, by decide⟩ rfl ?_
  refine v_ic_gt_n (n := 11) xB_224 dJ1_canEncode_9a6ad_8 (by decide) rfl (by first | omega | (simp only [sA_same, sA_s, ud_s, Int.reduceEq, if_true, if_false, ite_true, ite_false, ↓reduceIte, and_true, true_and, eq_self, Int.add_zero, Int.reduceAdd]; omega) | (simp (disch := omega) only [sA_same, sA_ne, ud_eq, ud_ne, Int.add_zero, Int.reduceAdd]; omega)) ?_
  refine v_iconst (n := 12) xB_224 dJ1_canEncode_9a6ad_11 ⟨by decide, by decide⟩ rfl ?_
  refine v_goto (t := 16) xB_224 dJ1_canEncode_9a6ad_12 (by decide) rfl ?_
  refine v_ireturn1 xB_224 dJ1_canEncode_9a6ad_16 xK_224 (by decide) ?_
  exact o1
def ixF (f : Int → Int) (c : Int) : Nat → Int → Int
  | 0, _ => -1
  | k + 1, i => if f i = c then i else ixF f c k (i + 1)
theorem wr8_id {c : Int} (h0 : 0 ≤ c) (h1 : c < 128) : wr8 c = c := by unfold wr8; omega
set_option maxHeartbeats 1000000 in
theorem j_ixc {d : Nat} {a c : Int} {ln : Nat} {m : PM} {dy : List (Nat × Nat)} {L : Nat} {Q : Option PV → PS → Prop} (hd : 1 ≤ d) (hsh : shp (m, (none, (dy, L))) a = (7, ln)) (hc : 0 ≤ c ∧ c < 128) (hl : ln < 1000) (o1 : Q (some (.inl (ixF (m a) c ln 0))) (m, (none, (dy, L)))) : C d 226 [.inr (.inr a), .inl c, .inl 0, .inl (ln : Int)] (m, (none, (dy, L))) Q := by
  refine C_go (k := 0) hd xL_226 (fun d hd => ?_)
  show V d 226 (0, ([some (.inr (.inr a)), some (.inl c), some (.inl 0), some (.inl (ln : Int)), none, none], ([], (m, (none, (dy, L)))))) Q
  refine v_iload_n (n := 1) xB_226 dJ1_indexOfChar_4cfef_0 rfl rfl ?_
  refine v_i2b (n := 2) xB_226 dJ1_indexOfChar_4cfef_1 rfl ?_
  refine v_istore4 (n := 4) xB_226 dJ1_indexOfChar_4cfef_2 rfl rfl ?_
  refine v_iload_n (n := 5) xB_226 dJ1_indexOfChar_4cfef_4 rfl rfl ?_
  refine v_istore5 (n := 7) xB_226 dJ1_indexOfChar_4cfef_5 rfl rfl ?_
  rw [wr8_id hc.1 hc.2]
  refine lp_up (F := fun (k : Int) (m' : PM) => V d 226 (7, ([some (.inr (.inr a)), some (.inl c), some (.inl 0), some (.inl (ln : Int)), some (.inl c), some (.inl (k))], ([], (m', (none, (dy, L)))))) Q) (E := fun (k : Int) (m' : PM) => m = m' ∧ ixF (m a) c ((ln : Int) - (k)).toNat (k) = ixF (m a) c ln 0) (a := 0) (b := (ln : Int)) ?_ ?_ (0) (m) (by first | omega | (simp only [sA_same, sA_s, ud_s, Int.reduceEq, if_true, if_false, ite_true, ite_false, ↓reduceIte, and_true, true_and, eq_self, Int.add_zero, Int.reduceAdd]; omega) | (simp (disch := omega) only [sA_same, sA_ne, ud_eq, ud_ne, Int.add_zero, Int.reduceAdd]; omega)) (by first | omega | (simp only [sA_same, sA_s, ud_s, Int.reduceEq, if_true, if_false, ite_true, ite_false, ↓reduceIte, and_true, true_and, eq_self, Int.add_zero, Int.reduceAdd]; omega) | (simp (disch := omega) only [sA_same, sA_ne, ud_eq, ud_ne, Int.add_zero, Int.reduceAdd]; omega)) ?_
  · intro m' hm
    show V d 226 (7, ([some (.inr (.inr a)), some (.inl c), some (.inl 0), some (.inl (ln : Int)), some (.inl c), some (.inl ((ln : Int)))], ([], (m', (none, (dy, L)))))) Q
    obtain ⟨rfl, hw⟩ := hm
    rw [show ((ln : Int) - (ln : Int)).toNat = 0 by omega] at hw
    refine v_iload (n := 9) xB_226 dJ1_indexOfChar_4cfef_7 rfl rfl ?_
    refine v_iload_n (n := 10) xB_226 dJ1_indexOfChar_4cfef_9 rfl rfl ?_
    refine v_ic_ge_y (t := 31) xB_226 dJ1_indexOfChar_4cfef_10 (by decide) rfl (by first | omega | (simp only [sA_same, sA_s, ud_s, Int.reduceEq, if_true, if_false, ite_true, ite_false, ↓reduceIte, and_true, true_and, eq_self, Int.add_zero, Int.reduceAdd]; omega) | (simp (disch := omega) only [sA_same, sA_ne, ud_eq, ud_ne, Int.add_zero, Int.reduceAdd]; omega)) ?_
    refine v_iconst (n := 32) xB_226 dJ1_indexOfChar_4cfef_31 ⟨by decide, by decide⟩ rfl ?_
    refine v_ireturn0 xB_226 dJ1_indexOfChar_4cfef_32 xK_226 ?_
    first
    | (have h2 : (-1 : Int) = _ := hw; rw [h2]; exact o1)
    | (rw [show ((ln : Int) - k).toNat = ((ln : Int) - (k + 1)).toNat + 1 by omega, ixF] at hw; rw [if_pos (by assumption)] at hw; rw [← hw] at o1; exact o1)
  · intro k m' h1 h2 hm ih
    show V d 226 (7, ([some (.inr (.inr a)), some (.inl c), some (.inl 0), some (.inl (ln : Int)), some (.inl c), some (.inl (k))], ([], (m', (none, (dy, L)))))) Q
    obtain ⟨rfl, hw⟩ := hm
    refine v_iload (n := 9) xB_226 dJ1_indexOfChar_4cfef_7 rfl rfl ?_
    refine v_iload_n (n := 10) xB_226 dJ1_indexOfChar_4cfef_9 rfl rfl ?_
    refine v_ic_ge_n (n := 13) xB_226 dJ1_indexOfChar_4cfef_10 (by decide) rfl (by first | omega | (simp only [sA_same, sA_s, ud_s, Int.reduceEq, if_true, if_false, ite_true, ite_false, ↓reduceIte, and_true, true_and, eq_self, Int.add_zero, Int.reduceAdd]; omega) | (simp (disch := omega) only [sA_same, sA_ne, ud_eq, ud_ne, Int.add_zero, Int.reduceAdd]; omega)) ?_
    refine v_aload_n (n := 14) xB_226 dJ1_indexOfChar_4cfef_13 rfl rfl ?_
    refine v_iload (n := 16) xB_226 dJ1_indexOfChar_4cfef_14 rfl rfl ?_
    refine v_baload7 (n := 17) (lz := (ln : Int)) xB_226 dJ1_indexOfChar_4cfef_16 hsh rfl (by first | omega | (simp only [sA_same, sA_s, ud_s, Int.reduceEq, if_true, if_false, ite_true, ite_false, ↓reduceIte, and_true, true_and, eq_self, Int.add_zero, Int.reduceAdd]; omega) | (simp (disch := omega) only [sA_same, sA_ne, ud_eq, ud_ne, Int.add_zero, Int.reduceAdd]; omega)) rfl ?_
    refine v_iload (n := 19) xB_226 dJ1_indexOfChar_4cfef_17 rfl rfl ?_
    refine v_ic_ne (t := 25) (n := 22) xB_226 dJ1_indexOfChar_4cfef_19 (by decide) rfl rfl (fun g1 => ?_) (fun g1 => ?_)
    · refine v_iinc5 (n := 28) xB_226 dJ1_indexOfChar_4cfef_25 rfl (by first | omega | (simp only [sA_same, sA_s, ud_s, Int.reduceEq, if_true, if_false, ite_true, ite_false, ↓reduceIte, and_true, true_and, eq_self, Int.add_zero, Int.reduceAdd]; omega) | (simp (disch := omega) only [sA_same, sA_ne, ud_eq, ud_ne, Int.add_zero, Int.reduceAdd]; omega)) rfl ?_
      refine v_goto (t := 7) xB_226 dJ1_indexOfChar_4cfef_28 (by decide) rfl ?_
      rw [show ((ln : Int) - k).toNat = ((ln : Int) - (k + 1)).toNat + 1 by omega, ixF] at hw
      rw [if_neg (by assumption)] at hw
      exact ih _ ⟨rfl, hw⟩
    · refine v_iload (n := 24) xB_226 dJ1_indexOfChar_4cfef_22 rfl rfl ?_
      refine v_ireturn0 xB_226 dJ1_indexOfChar_4cfef_24 xK_226 ?_
      first
      | (have h2 : (-1 : Int) = _ := hw; rw [h2]; exact o1)
      | (rw [show ((ln : Int) - k).toNat = ((ln : Int) - (k + 1)).toNat + 1 by omega, ixF] at hw; rw [if_pos (by assumption)] at hw; rw [← hw] at o1; exact o1)
  · exact ⟨rfl, by rw [show ((ln : Int) - 0).toNat = ln by omega]⟩
set_option maxHeartbeats 1000000 in
theorem j_ix1 {d : Nat} {a c : Int} {ln : Nat} {m : PM} {dy : List (Nat × Nat)} {L : Nat} {Q : Option PV → PS → Prop} (hd : 2 ≤ d) (hsh : shp (m, (none, (dy, L))) a = (7, ln)) (hc : 0 ≤ c ∧ c < 128) (hl : 0 < ln ∧ ln < 1000) (o1 : Q (some (.inl (ixF (m a) c ln 0))) (m, (none, (dy, L)))) : C d 225 [.inr (.inr a), .inl c, .inl 0, .inl (ln : Int)] (m, (none, (dy, L))) Q := by
  refine C_go (k := 1) hd xL_225 (fun d hd => ?_)
  show V d 225 (0, ([some (.inr (.inr a)), some (.inl c), some (.inl 0), some (.inl (ln : Int))], ([], (m, (none, (dy, L)))))) Q
  refine v_iload_n (n := 1) xB_225 dJ1_indexOf_4cfef_0 rfl rfl ?_
  refine v_call_s (n := 4) xB_225 dJ1_indexOf_4cfef_1 xO_225 sp_13_88 (Or.inl rfl) iv_13_88 rfl rfl rfl rfl ?_
  refine j_canEnc (by omega) (by first | omega | (simp only [sA_same, sA_s, ud_s, Int.reduceEq, if_true, if_false, ite_true, ite_false, ↓reduceIte, and_true, true_and, eq_self, Int.add_zero, Int.reduceAdd]; omega) | (simp (disch := omega) only [sA_same, sA_ne, ud_eq, ud_ne, Int.add_zero, Int.reduceAdd]; omega)) ?_
  refine v_if_ne_y (t := 9) xB_225 dJ1_indexOf_4cfef_4 (by decide) rfl (by decide) ?_
  refine v_iload_n (n := 10) xB_225 dJ1_indexOf_4cfef_9 rfl rfl ?_
  refine v_iconst (n := 11) xB_225 dJ1_indexOf_4cfef_10 ⟨by decide, by decide⟩ rfl ?_
  refine v_max (n := 14) xB_225 dJ1_indexOf_4cfef_11 xO_225 sp_13_92 rfl rfl ?_
  refine v_istore_n2 (n := 15) xB_225 dJ1_indexOf_4cfef_14 rfl rfl ?_
  refine v_iload_n (n := 16) xB_225 dJ1_indexOf_4cfef_15 rfl rfl ?_
  refine v_aload_n (n := 17) xB_225 dJ1_indexOf_4cfef_16 rfl rfl ?_
  refine v_alen (n := 18) (lz := (ln : Int)) xB_225 dJ1_indexOf_4cfef_17 hsh (by decide) rfl rfl ?_
  refine v_min (n := 21) xB_225 dJ1_indexOf_4cfef_18 xO_225 sp_13_38 rfl rfl ?_
  refine v_istore_n3 (n := 22) xB_225 dJ1_indexOf_4cfef_21 rfl rfl ?_
  rw [show (if (0 : Int) < 0 then (0 : Int) else 0) = 0 from rfl, show (if (ln : Int) < (ln : Int) then (ln : Int) else (ln : Int)) = (ln : Int) by rw [ite_self]]
  refine v_iload_n (n := 23) xB_225 dJ1_indexOf_4cfef_22 rfl rfl ?_
  refine v_iload_n (n := 24) xB_225 dJ1_indexOf_4cfef_23 rfl rfl ?_
  refine v_ic_lt_y (t := 29) xB_225 dJ1_indexOf_4cfef_24 (by decide) rfl (by first | omega | (simp only [sA_same, sA_s, ud_s, Int.reduceEq, if_true, if_false, ite_true, ite_false, ↓reduceIte, and_true, true_and, eq_self, Int.add_zero, Int.reduceAdd]; omega) | (simp (disch := omega) only [sA_same, sA_ne, ud_eq, ud_ne, Int.add_zero, Int.reduceAdd]; omega)) ?_
  refine v_aload_n (n := 30) xB_225 dJ1_indexOf_4cfef_29 rfl rfl ?_
  refine v_iload_n (n := 31) xB_225 dJ1_indexOf_4cfef_30 rfl rfl ?_
  refine v_iload_n (n := 32) xB_225 dJ1_indexOf_4cfef_31 rfl rfl ?_
  refine v_iload_n (n := 33) xB_225 dJ1_indexOf_4cfef_32 rfl rfl ?_
  refine v_call_s (n := 36) xB_225 dJ1_indexOf_4cfef_33 xO_225 sp_13_95 (Or.inl rfl) iv_13_95 rfl rfl rfl rfl ?_
  refine j_ixc (by omega) hsh (by first | omega | (simp only [sA_same, sA_s, ud_s, Int.reduceEq, if_true, if_false, ite_true, ite_false, ↓reduceIte, and_true, true_and, eq_self, Int.add_zero, Int.reduceAdd]; omega) | (simp (disch := omega) only [sA_same, sA_ne, ud_eq, ud_ne, Int.add_zero, Int.reduceAdd]; omega)) (by first | omega | (simp only [sA_same, sA_s, ud_s, Int.reduceEq, if_true, if_false, ite_true, ite_false, ↓reduceIte, and_true, true_and, eq_self, Int.add_zero, Int.reduceAdd]; omega) | (simp (disch := omega) only [sA_same, sA_ne, ud_eq, ud_ne, Int.add_zero, Int.reduceAdd]; omega)) ?_
  refine v_ireturn0 xB_225 dJ1_indexOf_4cfef_36 xK_225 ?_
  exact o1
set_option maxHeartbeats 1000000 in
theorem j_ix3 {d : Nat} {o c : Int} {ln : Nat} {m : PM} {dy : List (Nat × Nat)} {L : Nat} {Q : Option PV → PS → Prop} (hd : 3 ≤ d) (hs : o = -10 ∨ o = -11 ∨ o = -12) (hsh : shp (m, (none, (dy, L))) (o - 10) = (7, ln)) (hc : 0 ≤ c ∧ c < 128) (hl : 0 < ln ∧ ln < 1000) (o1 : Q (some (.inl (ixF (m (o - 10)) c ln 0))) (m, (none, (dy, L)))) : C d 218 [.inr (.inr o), .inl c, .inl 0] (m, (none, (dy, L))) Q := by
  refine C_go (k := 2) hd xL_218 (fun d hd => ?_)
  show V d 218 (0, ([some (.inr (.inr o)), some (.inl c), some (.inl 0)], ([], (m, (none, (dy, L)))))) Q
  refine v_aload_n (n := 1) xB_218 dJ0_indexOf_7cf53_0 rfl rfl ?_
  refine v_call_t (cls := 0) (n := 4) xB_218 dJ0_indexOf_7cf53_1 xO_218 iv_12_492 rfl (by first | omega | (simp only [sA_same, sA_s, ud_s, Int.reduceEq, if_true, if_false, ite_true, ite_false, ↓reduceIte, and_true, true_and, eq_self, Int.add_zero, Int.reduceAdd]; omega) | (simp (disch := omega) only [sA_same, sA_ne, ud_eq, ud_ne, Int.add_zero, Int.reduceAdd]; omega)) rfl rfl rfl ?_
  refine j_isLatin1 (by omega) hs ?_
  refine v_if_eq_n (n := 7) xB_218 dJ0_indexOf_7cf53_4 (by decide) rfl (by decide) ?_
  refine v_aload_n (n := 8) xB_218 dJ0_indexOf_7cf53_7 rfl rfl ?_
  refine v_gf_s0 (n := 11) xB_218 dJ0_indexOf_7cf53_8 xO_218 fl_12_9 sf_12_9 (by first | omega | (simp only [sA_same, sA_s, ud_s, Int.reduceEq, if_true, if_false, ite_true, ite_false, ↓reduceIte, and_true, true_and, eq_self, Int.add_zero, Int.reduceAdd]; omega) | (simp (disch := omega) only [sA_same, sA_ne, ud_eq, ud_ne, Int.add_zero, Int.reduceAdd]; omega)) rfl ?_
  refine v_iload_n (n := 12) xB_218 dJ0_indexOf_7cf53_11 rfl rfl ?_
  refine v_iload_n (n := 13) xB_218 dJ0_indexOf_7cf53_12 rfl rfl ?_
  refine v_aload_n (n := 14) xB_218 dJ0_indexOf_7cf53_13 rfl rfl ?_
  refine v_call_t (cls := 0) (n := 17) xB_218 dJ0_indexOf_7cf53_14 xO_218 iv_12_505 rfl (by first | omega | (simp only [sA_same, sA_s, ud_s, Int.reduceEq, if_true, if_false, ite_true, ite_false, ↓reduceIte, and_true, true_and, eq_self, Int.add_zero, Int.reduceAdd]; omega) | (simp (disch := omega) only [sA_same, sA_ne, ud_eq, ud_ne, Int.add_zero, Int.reduceAdd]; omega)) rfl rfl rfl ?_
  refine j_length (by omega) hs hsh ?_
  refine v_call_s (n := 20) xB_218 dJ0_indexOf_7cf53_17 xO_218 sp_12_637 (Or.inl rfl) iv_12_637 rfl rfl rfl rfl ?_
  refine j_ix1 (by omega) hsh (by first | omega | (simp only [sA_same, sA_s, ud_s, Int.reduceEq, if_true, if_false, ite_true, ite_false, ↓reduceIte, and_true, true_and, eq_self, Int.add_zero, Int.reduceAdd]; omega) | (simp (disch := omega) only [sA_same, sA_ne, ud_eq, ud_ne, Int.add_zero, Int.reduceAdd]; omega)) (by first | omega | (simp only [sA_same, sA_s, ud_s, Int.reduceEq, if_true, if_false, ite_true, ite_false, ↓reduceIte, and_true, true_and, eq_self, Int.add_zero, Int.reduceAdd]; omega) | (simp (disch := omega) only [sA_same, sA_ne, ud_eq, ud_ne, Int.add_zero, Int.reduceAdd]; omega)) ?_
  refine v_goto (t := 36) xB_218 dJ0_indexOf_7cf53_20 (by decide) rfl ?_
  refine v_ireturn0 xB_218 dJ0_indexOf_7cf53_36 xK_218 ?_
  exact o1
set_option maxHeartbeats 1000000 in
theorem j_ix {d : Nat} {o c : Int} {ln : Nat} {m : PM} {dy : List (Nat × Nat)} {L : Nat} {Q : Option PV → PS → Prop} (hd : 4 ≤ d) (hs : o = -10 ∨ o = -11 ∨ o = -12) (hsh : shp (m, (none, (dy, L))) (o - 10) = (7, ln)) (hc : 0 ≤ c ∧ c < 128) (hl : 0 < ln ∧ ln < 1000) (o1 : Q (some (.inl (ixF (m (o - 10)) c ln 0))) (m, (none, (dy, L)))) : C d 217 [.inr (.inr o), .inl c] (m, (none, (dy, L))) Q := by
  refine C_go (k := 3) hd xL_217 (fun d hd => ?_)
  show V d 217 (0, ([some (.inr (.inr o)), some (.inl c)], ([], (m, (none, (dy, L)))))) Q
  refine v_aload_n (n := 1) xB_217 dJ0_indexOf_0f7a4_0 rfl rfl ?_
  refine v_iload_n (n := 2) xB_217 dJ0_indexOf_0f7a4_1 rfl rfl ?_
  refine v_iconst (n := 3) xB_217 dJ0_indexOf_0f7a4_2 ⟨by decide, by decide⟩ rfl ?_
  refine v_call_t (cls := 0) (n := 6) xB_217 dJ0_indexOf_0f7a4_3 xO_217 iv_12_633 rfl (by first | omega | (simp only [sA_same, sA_s, ud_s, Int.reduceEq, if_true, if_false, ite_true, ite_false, ↓reduceIte, and_true, true_and, eq_self, Int.add_zero, Int.reduceAdd]; omega) | (simp (disch := omega) only [sA_same, sA_ne, ud_eq, ud_ne, Int.add_zero, Int.reduceAdd]; omega)) rfl rfl rfl ?_
  refine j_ix3 (by omega) hs hsh (by first | omega | (simp only [sA_same, sA_s, ud_s, Int.reduceEq, if_true, if_false, ite_true, ite_false, ↓reduceIte, and_true, true_and, eq_self, Int.add_zero, Int.reduceAdd]; omega) | (simp (disch := omega) only [sA_same, sA_ne, ud_eq, ud_ne, Int.add_zero, Int.reduceAdd]; omega)) (by first | omega | (simp only [sA_same, sA_s, ud_s, Int.reduceEq, if_true, if_false, ite_true, ite_false, ↓reduceIte, and_true, true_and, eq_self, Int.add_zero, Int.reduceAdd]; omega) | (simp (disch := omega) only [sA_same, sA_ne, ud_eq, ud_ne, Int.add_zero, Int.reduceAdd]; omega)) ?_
  refine v_ireturn0 xB_217 dJ0_indexOf_0f7a4_6 xK_217 ?_
  exact o1
def txP : List Int := [112, 111, 116, 107, 118, 110]
theorem sh_m20 (m : PM) (d : List (Nat × Nat)) (L : Nat) : shp (m, (none, (d, L))) (-10 - 10) = (7, 16) := Eq.trans rfl rfl
theorem sh_m21 (m : PM) (d : List (Nat × Nat)) (L : Nat) : shp (m, (none, (d, L))) (-11 - 10) = (7, 6) := Eq.trans rfl rfl
theorem sh_m22 (m : PM) (d : List (Nat × Nat)) (L : Nat) : shp (m, (none, (d, L))) (-12 - 10) = (7, 3) := Eq.trans rfl rfl
def KT (m : PM) : Prop := (∀ i : Nat, i < 16 → m (-20) i = ltr i) ∧ (∀ i : Nat, i < 6 → m (-21) i = txP.getD i 0) ∧ (∀ i : Nat, i < 3 → m (-22) i = 60 + i)
theorem ix_plc {f : Int → Int} (h : ∀ i : Nat, i < 6 → f i = txP.getD i 0) (c : Int) : ixF f c 6 0 = plc c := by
  have e0 : f 0 = 112 := h 0 (by decide)
  have e1 : f 1 = 111 := h 1 (by decide)
  have e2 : f 2 = 116 := h 2 (by decide)
  have e3 : f 3 = 107 := h 3 (by decide)
  have e4 : f 4 = 118 := h 4 (by decide)
  have e5 : f 5 = 110 := h 5 (by decide)
  unfold plc
  simp only [ixF, Int.reduceAdd, e0, e1, e2, e3, e4, e5]
  (repeat' split) <;> first | rfl | omega
theorem ix_rel {f : Int → Int} (h : ∀ i : Nat, i < 3 → f i = 60 + i) (c : Int) : ixF f c 3 0 = if 60 ≤ c ∧ c ≤ 62 then c - 60 else -1 := by
  have e0 : f 0 = 60 := h 0 (by decide)
  have e1 : f 1 = 61 := h 1 (by decide)
  have e2 : f 2 = 62 := h 2 (by decide)
  simp only [ixF, Int.reduceAdd, e0, e1, e2]
  (repeat' split) <;> omega
def RdT (m : PM) : Prop := (0 ≤ m 53 1 ∧ m 53 1 ≤ 100) ∧ (0 ≤ m 53 2 ∧ m 53 2 ≤ m 53 1) ∧ (∀ i, 0 ≤ i → i < m 53 1 → 0 ≤ m 54 i ∧ m 54 i ≤ 127)
theorem nx_t {T : Int → Int} {n a : Int} (h : a < n) : nxt T n a = T a := if_pos h
theorem nx_f {T : Int → Int} {n a : Int} (h : ¬ a < n) : nxt T n a = -1 := if_neg h
set_option maxHeartbeats 1000000 in
theorem k_sign {d : Nat}  {m : PM} {dy : List (Nat × Nat)} {L : Nat} {Q : Option PV → PS → Prop} (hd : 1 ≤ d) (hT : (0 ≤ m 53 1 ∧ m 53 1 ≤ 100) ∧ (0 ≤ m 53 2 ∧ m 53 2 ≤ m 53 1)) (o1 : Q (some (.inl (nxt (m 54) (m 53 1) (m 53 2)))) (m, (none, (dy, L)))) : C d 51 [.inr (.inr 53)] (m, (none, (dy, L))) Q := by
  refine C_go (k := 0) hd xL_51 (fun d hd => ?_)
  show V d 51 (0, ([some (.inr (.inr 53))], ([], (m, (none, (dy, L)))))) Q
  refine v_aload_n (n := 1) xB_51 dX5_sign_0 rfl rfl ?_
  refine v_gf_i (n := 4) (kz := 2) xB_51 dX5_sign_1 xO_51 fl_5_28 fg_5_2 rfl (sh_53 _ _ _) rfl rfl ?_
  refine v_aload_n (n := 5) xB_51 dX5_sign_4 rfl rfl ?_
  refine v_gf_i (n := 8) (kz := 1) xB_51 dX5_sign_5 xO_51 fl_5_59 fg_5_1 rfl (sh_53 _ _ _) rfl rfl ?_
  refine v_ic_ge (t := 23) (n := 11) xB_51 dX5_sign_8 (by decide) rfl rfl (fun g1 => ?_) (fun g1 => ?_)
  · refine v_iconst (n := 24) xB_51 dX5_sign_23 ⟨by decide, by decide⟩ rfl ?_
    refine v_ireturn0 xB_51 dX5_sign_24 xK_51 ?_
    first | (rw [nx_t (by omega)] at o1; exact o1) | (rw [nx_f (by omega)] at o1; exact o1)
  · refine v_aload_n (n := 12) xB_51 dX5_sign_11 rfl rfl ?_
    refine v_gf_s (n := 15) (kz := 0) xB_51 dX5_sign_12 xO_51 fl_5_9 fg_5_0 (sh_53 _ _ _) rfl st_53_0 rfl ?_
    refine v_aload_n (n := 16) xB_51 dX5_sign_15 rfl rfl ?_
    refine v_gf_i (n := 19) (kz := 2) xB_51 dX5_sign_16 xO_51 fl_5_28 fg_5_2 rfl (sh_53 _ _ _) rfl rfl ?_
    refine v_iaload (n := 20) (lz := 100) xB_51 dX5_sign_19 (sh_54 _ _ _) rfl (by first | omega | (simp only [sA_same, sA_s, ud_s, Int.reduceEq, if_true, if_false, ite_true, ite_false, ↓reduceIte, and_true, true_and, eq_self, Int.add_zero, Int.reduceAdd]; omega) | (simp (disch := omega) only [sA_same, sA_ne, ud_eq, ud_ne, Int.add_zero, Int.reduceAdd]; omega)) rfl ?_
    refine v_goto (t := 24) xB_51 dX5_sign_20 (by decide) rfl ?_
    refine v_ireturn0 xB_51 dX5_sign_24 xK_51 ?_
    first | (rw [nx_t (by omega)] at o1; exact o1) | (rw [nx_f (by omega)] at o1; exact o1)
set_option maxHeartbeats 1000000 in
theorem k_number {d : Nat}  {m : PM} {dy : List (Nat × Nat)} {L : Nat} {Q : Option PV → PS → Prop} (hd : 1 ≤ d) (hT : (0 ≤ m 53 1 ∧ m 53 1 ≤ 100) ∧ (0 ≤ m 53 2 ∧ m 53 2 ≤ m 53 1)) (o1 : Q (some (.inl (nmv (m 54) (m 53 1) (m 53 2)).1)) (setA m 53 (ud (m 53) 2 (nmv (m 54) (m 53 1) (m 53 2)).2), (none, (dy, L)))) : C d 50 [.inr (.inr 53)] (m, (none, (dy, L))) Q := by
  refine C_go (k := 0) hd xL_50 (fun d hd => ?_)
  show V d 50 (0, ([some (.inr (.inr 53)), none, none, none], ([], (m, (none, (dy, L)))))) Q
  refine v_iconst (n := 1) xB_50 dX5_number_0 ⟨by decide, by decide⟩ rfl ?_
  refine v_istore_n1 (n := 2) xB_50 dX5_number_1 rfl rfl ?_
  refine v_iconst (n := 3) xB_50 dX5_number_2 ⟨by decide, by decide⟩ rfl ?_
  refine v_istore_n2 (n := 4) xB_50 dX5_number_3 rfl rfl ?_
  refine v_iload_n (n := 5) xB_50 dX5_number_4 rfl rfl ?_
  refine v_iconst (n := 6) xB_50 dX5_number_5 ⟨by decide, by decide⟩ rfl ?_
  refine v_ic_ge_n (n := 9) xB_50 dX5_number_6 (by decide) rfl (by decide) ?_
  refine v_aload_n (n := 10) xB_50 dX5_number_9 rfl rfl ?_
  refine v_gf_i (n := 13) (kz := 2) xB_50 dX5_number_10 xO_50 fl_5_28 fg_5_2 rfl (sh_53 _ _ _) rfl rfl ?_
  refine v_aload_n (n := 14) xB_50 dX5_number_13 rfl rfl ?_
  refine v_gf_i (n := 17) (kz := 1) xB_50 dX5_number_14 xO_50 fl_5_59 fg_5_1 rfl (sh_53 _ _ _) rfl rfl ?_
  refine v_ic_ge (t := 92) (n := 20) xB_50 dX5_number_17 (by decide) rfl rfl (fun g1 => ?_) (fun g1 => ?_)
  · (try simp (disch := omega) only [sA_same, sA_ne, sA_sA, sA_sr, sB_s, ud_eq, ud_ne, ud_ud, ud_sr, uB_s, Int.add_zero, Int.reduceAdd] at g1)
    refine v_iload_n (n := 93) xB_50 dX5_number_92 rfl rfl ?_
    refine v_ireturn0 xB_50 dX5_number_93 xK_50 ?_
    first
    | (rw [nmv0 _ _ _ (by first | (rw [nx_f (by omega)]; omega) | (rw [nx_t (by omega)]; omega))] at o1; rw [ud_id, sA_id] at o1; exact o1)
    | (rw [nmv1 _ _ _ (by rw [nx_t (by omega)]; omega) (by first | (rw [nx_f (by omega)]; omega) | (rw [nx_t (by omega)]; omega)), nx_t (by omega)] at o1; exact o1)
    | (rw [nmv2 _ _ _ (by rw [nx_t (by omega)]; omega) (by rw [nx_t (by omega)]; omega), nx_t (by omega), nx_t (by omega)] at o1; dsimp only at o1; first | exact o1 | (rw [show ∀ x y : Int, 10 * x + y - 48 = 10 * x + (y - 48) from fun x y => by omega] at o1; exact o1))
  · (try simp (disch := omega) only [sA_same, sA_ne, sA_sA, sA_sr, sB_s, ud_eq, ud_ne, ud_ud, ud_sr, uB_s, Int.add_zero, Int.reduceAdd] at g1)
    refine v_aload_n (n := 21) xB_50 dX5_number_20 rfl rfl ?_
    refine v_gf_s (n := 24) (kz := 0) xB_50 dX5_number_21 xO_50 fl_5_9 fg_5_0 (sh_53 _ _ _) rfl st_53_0 rfl ?_
    refine v_aload_n (n := 25) xB_50 dX5_number_24 rfl rfl ?_
    refine v_gf_i (n := 28) (kz := 2) xB_50 dX5_number_25 xO_50 fl_5_28 fg_5_2 rfl (sh_53 _ _ _) rfl rfl ?_
    refine v_iaload (n := 29) (lz := 100) xB_50 dX5_number_28 (sh_54 _ _ _) rfl (by first | omega | (simp only [sA_same, sA_s, ud_s, Int.reduceEq, if_true, if_false, ite_true, ite_false, ↓reduceIte, and_true, true_and, eq_self, Int.add_zero, Int.reduceAdd]; omega) | (simp (disch := omega) only [sA_same, sA_ne, ud_eq, ud_ne, Int.add_zero, Int.reduceAdd]; omega)) rfl ?_
    refine v_bipush (n := 31) xB_50 dX5_number_29 ⟨by decide, by decide⟩ rfl ?_
    refine v_ic_lt (t := 92) (n := 34) xB_50 dX5_number_31 (by decide) rfl rfl (fun g2 => ?_) (fun g2 => ?_)
    · (try simp (disch := omega) only [sA_same, sA_ne, sA_sA, sA_sr, sB_s, ud_eq, ud_ne, ud_ud, ud_sr, uB_s, Int.add_zero, Int.reduceAdd] at g2)
      refine v_iload_n (n := 93) xB_50 dX5_number_92 rfl rfl ?_
      refine v_ireturn0 xB_50 dX5_number_93 xK_50 ?_
      first
      | (rw [nmv0 _ _ _ (by first | (rw [nx_f (by omega)]; omega) | (rw [nx_t (by omega)]; omega))] at o1; rw [ud_id, sA_id] at o1; exact o1)
      | (rw [nmv1 _ _ _ (by rw [nx_t (by omega)]; omega) (by first | (rw [nx_f (by omega)]; omega) | (rw [nx_t (by omega)]; omega)), nx_t (by omega)] at o1; exact o1)
      | (rw [nmv2 _ _ _ (by rw [nx_t (by omega)]; omega) (by rw [nx_t (by omega)]; omega), nx_t (by omega), nx_t (by omega)] at o1; dsimp only at o1; first | exact o1 | (rw [show ∀ x y : Int, 10 * x + y - 48 = 10 * x + (y - 48) from fun x y => by omega] at o1; exact o1))
    · (try simp (disch := omega) only [sA_same, sA_ne, sA_sA, sA_sr, sB_s, ud_eq, ud_ne, ud_ud, ud_sr, uB_s, Int.add_zero, Int.reduceAdd] at g2)
      refine v_aload_n (n := 35) xB_50 dX5_number_34 rfl rfl ?_
      refine v_gf_s (n := 38) (kz := 0) xB_50 dX5_number_35 xO_50 fl_5_9 fg_5_0 (sh_53 _ _ _) rfl st_53_0 rfl ?_
      refine v_aload_n (n := 39) xB_50 dX5_number_38 rfl rfl ?_
      refine v_gf_i (n := 42) (kz := 2) xB_50 dX5_number_39 xO_50 fl_5_28 fg_5_2 rfl (sh_53 _ _ _) rfl rfl ?_
      refine v_iaload (n := 43) (lz := 100) xB_50 dX5_number_42 (sh_54 _ _ _) rfl (by first | omega | (simp only [sA_same, sA_s, ud_s, Int.reduceEq, if_true, if_false, ite_true, ite_false, ↓reduceIte, and_true, true_and, eq_self, Int.add_zero, Int.reduceAdd]; omega) | (simp (disch := omega) only [sA_same, sA_ne, ud_eq, ud_ne, Int.add_zero, Int.reduceAdd]; omega)) rfl ?_
      refine v_bipush (n := 45) xB_50 dX5_number_43 ⟨by decide, by decide⟩ rfl ?_
      refine v_ic_gt (t := 92) (n := 48) xB_50 dX5_number_45 (by decide) rfl rfl (fun g3 => ?_) (fun g3 => ?_)
      · (try simp (disch := omega) only [sA_same, sA_ne, sA_sA, sA_sr, sB_s, ud_eq, ud_ne, ud_ud, ud_sr, uB_s, Int.add_zero, Int.reduceAdd] at g3)
        refine v_iload_n (n := 93) xB_50 dX5_number_92 rfl rfl ?_
        refine v_ireturn0 xB_50 dX5_number_93 xK_50 ?_
        first
        | (rw [nmv0 _ _ _ (by first | (rw [nx_f (by omega)]; omega) | (rw [nx_t (by omega)]; omega))] at o1; rw [ud_id, sA_id] at o1; exact o1)
        | (rw [nmv1 _ _ _ (by rw [nx_t (by omega)]; omega) (by first | (rw [nx_f (by omega)]; omega) | (rw [nx_t (by omega)]; omega)), nx_t (by omega)] at o1; exact o1)
        | (rw [nmv2 _ _ _ (by rw [nx_t (by omega)]; omega) (by rw [nx_t (by omega)]; omega), nx_t (by omega), nx_t (by omega)] at o1; dsimp only at o1; first | exact o1 | (rw [show ∀ x y : Int, 10 * x + y - 48 = 10 * x + (y - 48) from fun x y => by omega] at o1; exact o1))
      · (try simp (disch := omega) only [sA_same, sA_ne, sA_sA, sA_sr, sB_s, ud_eq, ud_ne, ud_ud, ud_sr, uB_s, Int.add_zero, Int.reduceAdd] at g3)
        refine v_aload_n (n := 49) xB_50 dX5_number_48 rfl rfl ?_
        refine v_gf_s (n := 52) (kz := 0) xB_50 dX5_number_49 xO_50 fl_5_9 fg_5_0 (sh_53 _ _ _) rfl st_53_0 rfl ?_
        refine v_aload_n (n := 53) xB_50 dX5_number_52 rfl rfl ?_
        refine v_gf_i (n := 56) (kz := 2) xB_50 dX5_number_53 xO_50 fl_5_28 fg_5_2 rfl (sh_53 _ _ _) rfl rfl ?_
        refine v_iaload (n := 57) (lz := 100) xB_50 dX5_number_56 (sh_54 _ _ _) rfl (by first | omega | (simp only [sA_same, sA_s, ud_s, Int.reduceEq, if_true, if_false, ite_true, ite_false, ↓reduceIte, and_true, true_and, eq_self, Int.add_zero, Int.reduceAdd]; omega) | (simp (disch := omega) only [sA_same, sA_ne, ud_eq, ud_ne, Int.add_zero, Int.reduceAdd]; omega)) rfl ?_
        refine v_bipush (n := 59) xB_50 dX5_number_57 ⟨by decide, by decide⟩ rfl ?_
        refine v_isub (n := 60) xB_50 dX5_number_59 (by first | omega | (simp only [sA_same, sA_s, ud_s, Int.reduceEq, if_true, if_false, ite_true, ite_false, ↓reduceIte, and_true, true_and, eq_self, Int.add_zero, Int.reduceAdd]; omega) | (simp (disch := omega) only [sA_same, sA_ne, ud_eq, ud_ne, Int.add_zero, Int.reduceAdd]; omega)) rfl ?_
        refine v_istore_n3 (n := 61) xB_50 dX5_number_60 rfl rfl ?_
        refine v_iload_n (n := 62) xB_50 dX5_number_61 rfl rfl ?_
        refine v_if_ge_n (n := 65) xB_50 dX5_number_62 (by decide) rfl (by decide) ?_
        refine v_iload_n (n := 66) xB_50 dX5_number_65 rfl rfl ?_
        refine v_goto (t := 75) xB_50 dX5_number_66 (by decide) rfl ?_
        refine v_istore_n1 (n := 76) xB_50 dX5_number_75 rfl rfl ?_
        refine v_aload_n (n := 77) xB_50 dX5_number_76 rfl rfl ?_
        refine v_dup (n := 78) xB_50 dX5_number_77 rfl rfl ?_
        refine v_gf_i (n := 81) (kz := 2) xB_50 dX5_number_78 xO_50 fl_5_28 fg_5_2 rfl (sh_53 _ _ _) rfl rfl ?_
        refine v_iconst (n := 82) xB_50 dX5_number_81 ⟨by decide, by decide⟩ rfl ?_
        refine v_iadd (n := 83) xB_50 dX5_number_82 (by first | omega | (simp only [sA_same, sA_s, ud_s, Int.reduceEq, if_true, if_false, ite_true, ite_false, ↓reduceIte, and_true, true_and, eq_self, Int.add_zero, Int.reduceAdd]; omega) | (simp (disch := omega) only [sA_same, sA_ne, ud_eq, ud_ne, Int.add_zero, Int.reduceAdd]; omega)) rfl ?_
        refine v_pf_i (n := 86) (kz := 2) xB_50 dX5_number_83 xO_50 fl_5_28 fg_5_2 (Or.inl fn_5_2) (sh_53 _ _ _) (by decide) rfl rfl ?_
        (try simp (disch := omega) only [sA_same, sA_ne, sA_sA, sA_sr, sB_s, ud_eq, ud_ne, ud_ud, ud_sr, uB_s, Int.add_zero, Int.reduceAdd])
        refine v_iinc2 (n := 89) xB_50 dX5_number_86 rfl (by first | omega | (simp only [sA_same, sA_s, ud_s, Int.reduceEq, if_true, if_false, ite_true, ite_false, ↓reduceIte, and_true, true_and, eq_self, Int.add_zero, Int.reduceAdd]; omega) | (simp (disch := omega) only [sA_same, sA_ne, ud_eq, ud_ne, Int.add_zero, Int.reduceAdd]; omega)) rfl ?_
        refine v_goto (t := 4) xB_50 dX5_number_89 (by decide) rfl ?_
        refine v_iload_n (n := 5) xB_50 dX5_number_4 rfl rfl ?_
        refine v_iconst (n := 6) xB_50 dX5_number_5 ⟨by decide, by decide⟩ rfl ?_
        refine v_ic_ge_n (n := 9) xB_50 dX5_number_6 (by decide) rfl (by decide) ?_
        refine v_aload_n (n := 10) xB_50 dX5_number_9 rfl rfl ?_
        refine v_gf_i (n := 13) (kz := 2) xB_50 dX5_number_10 xO_50 fl_5_28 fg_5_2 rfl (sh_53 _ _ _) rfl rfl ?_
        refine v_aload_n (n := 14) xB_50 dX5_number_13 rfl rfl ?_
        refine v_gf_i (n := 17) (kz := 1) xB_50 dX5_number_14 xO_50 fl_5_59 fg_5_1 rfl (sh_53 _ _ _) rfl rfl ?_
        refine v_ic_ge (t := 92) (n := 20) xB_50 dX5_number_17 (by decide) rfl rfl (fun g4 => ?_) (fun g4 => ?_)
        · (try simp (disch := omega) only [sA_same, sA_ne, sA_sA, sA_sr, sB_s, ud_eq, ud_ne, ud_ud, ud_sr, uB_s, Int.add_zero, Int.reduceAdd] at g4)
          refine v_iload_n (n := 93) xB_50 dX5_number_92 rfl rfl ?_
          refine v_ireturn0 xB_50 dX5_number_93 xK_50 ?_
          first
          | (rw [nmv0 _ _ _ (by first | (rw [nx_f (by omega)]; omega) | (rw [nx_t (by omega)]; omega))] at o1; rw [ud_id, sA_id] at o1; exact o1)
          | (rw [nmv1 _ _ _ (by rw [nx_t (by omega)]; omega) (by first | (rw [nx_f (by omega)]; omega) | (rw [nx_t (by omega)]; omega)), nx_t (by omega)] at o1; exact o1)
          | (rw [nmv2 _ _ _ (by rw [nx_t (by omega)]; omega) (by rw [nx_t (by omega)]; omega), nx_t (by omega), nx_t (by omega)] at o1; dsimp only at o1; first | exact o1 | (rw [show ∀ x y : Int, 10 * x + y - 48 = 10 * x + (y - 48) from fun x y => by omega] at o1; exact o1))
        · (try simp (disch := omega) only [sA_same, sA_ne, sA_sA, sA_sr, sB_s, ud_eq, ud_ne, ud_ud, ud_sr, uB_s, Int.add_zero, Int.reduceAdd] at g4)
          refine v_aload_n (n := 21) xB_50 dX5_number_20 rfl rfl ?_
          refine v_gf_s (n := 24) (kz := 0) xB_50 dX5_number_21 xO_50 fl_5_9 fg_5_0 (sh_53 _ _ _) rfl st_53_0 rfl ?_
          refine v_aload_n (n := 25) xB_50 dX5_number_24 rfl rfl ?_
          refine v_gf_i (n := 28) (kz := 2) xB_50 dX5_number_25 xO_50 fl_5_28 fg_5_2 rfl (sh_53 _ _ _) rfl rfl ?_
          refine v_iaload (n := 29) (lz := 100) xB_50 dX5_number_28 (sh_54 _ _ _) rfl (by first | omega | (simp only [sA_same, sA_s, ud_s, Int.reduceEq, if_true, if_false, ite_true, ite_false, ↓reduceIte, and_true, true_and, eq_self, Int.add_zero, Int.reduceAdd]; omega) | (simp (disch := omega) only [sA_same, sA_ne, ud_eq, ud_ne, Int.add_zero, Int.reduceAdd]; omega)) rfl ?_
          refine v_bipush (n := 31) xB_50 dX5_number_29 ⟨by decide, by decide⟩ rfl ?_
          refine v_ic_lt (t := 92) (n := 34) xB_50 dX5_number_31 (by decide) rfl rfl (fun g5 => ?_) (fun g5 => ?_)
          · (try simp (disch := omega) only [sA_same, sA_ne, sA_sA, sA_sr, sB_s, ud_eq, ud_ne, ud_ud, ud_sr, uB_s, Int.add_zero, Int.reduceAdd] at g5)
            refine v_iload_n (n := 93) xB_50 dX5_number_92 rfl rfl ?_
            refine v_ireturn0 xB_50 dX5_number_93 xK_50 ?_
            first
            | (rw [nmv0 _ _ _ (by first | (rw [nx_f (by omega)]; omega) | (rw [nx_t (by omega)]; omega))] at o1; rw [ud_id, sA_id] at o1; exact o1)
            | (rw [nmv1 _ _ _ (by rw [nx_t (by omega)]; omega) (by first | (rw [nx_f (by omega)]; omega) | (rw [nx_t (by omega)]; omega)), nx_t (by omega)] at o1; exact o1)
            | (rw [nmv2 _ _ _ (by rw [nx_t (by omega)]; omega) (by rw [nx_t (by omega)]; omega), nx_t (by omega), nx_t (by omega)] at o1; dsimp only at o1; first | exact o1 | (rw [show ∀ x y : Int, 10 * x + y - 48 = 10 * x + (y - 48) from fun x y => by omega] at o1; exact o1))
          · (try simp (disch := omega) only [sA_same, sA_ne, sA_sA, sA_sr, sB_s, ud_eq, ud_ne, ud_ud, ud_sr, uB_s, Int.add_zero, Int.reduceAdd] at g5)
            refine v_aload_n (n := 35) xB_50 dX5_number_34 rfl rfl ?_
            refine v_gf_s (n := 38) (kz := 0) xB_50 dX5_number_35 xO_50 fl_5_9 fg_5_0 (sh_53 _ _ _) rfl st_53_0 rfl ?_
            refine v_aload_n (n := 39) xB_50 dX5_number_38 rfl rfl ?_
            refine v_gf_i (n := 42) (kz := 2) xB_50 dX5_number_39 xO_50 fl_5_28 fg_5_2 rfl (sh_53 _ _ _) rfl rfl ?_
            refine v_iaload (n := 43) (lz := 100) xB_50 dX5_number_42 (sh_54 _ _ _) rfl (by first | omega | (simp only [sA_same, sA_s, ud_s, Int.reduceEq, if_true, if_false, ite_true, ite_false, ↓reduceIte, and_true, true_and, eq_self, Int.add_zero, Int.reduceAdd]; omega) | (simp (disch := omega) only [sA_same, sA_ne, ud_eq, ud_ne, Int.add_zero, Int.reduceAdd]; omega)) rfl ?_
            refine v_bipush (n := 45) xB_50 dX5_number_43 ⟨by decide, by decide⟩ rfl ?_
            refine v_ic_gt (t := 92) (n := 48) xB_50 dX5_number_45 (by decide) rfl rfl (fun g6 => ?_) (fun g6 => ?_)
            · (try simp (disch := omega) only [sA_same, sA_ne, sA_sA, sA_sr, sB_s, ud_eq, ud_ne, ud_ud, ud_sr, uB_s, Int.add_zero, Int.reduceAdd] at g6)
              refine v_iload_n (n := 93) xB_50 dX5_number_92 rfl rfl ?_
              refine v_ireturn0 xB_50 dX5_number_93 xK_50 ?_
              first
              | (rw [nmv0 _ _ _ (by first | (rw [nx_f (by omega)]; omega) | (rw [nx_t (by omega)]; omega))] at o1; rw [ud_id, sA_id] at o1; exact o1)
              | (rw [nmv1 _ _ _ (by rw [nx_t (by omega)]; omega) (by first | (rw [nx_f (by omega)]; omega) | (rw [nx_t (by omega)]; omega)), nx_t (by omega)] at o1; exact o1)
              | (rw [nmv2 _ _ _ (by rw [nx_t (by omega)]; omega) (by rw [nx_t (by omega)]; omega), nx_t (by omega), nx_t (by omega)] at o1; dsimp only at o1; first | exact o1 | (rw [show ∀ x y : Int, 10 * x + y - 48 = 10 * x + (y - 48) from fun x y => by omega] at o1; exact o1))
            · (try simp (disch := omega) only [sA_same, sA_ne, sA_sA, sA_sr, sB_s, ud_eq, ud_ne, ud_ud, ud_sr, uB_s, Int.add_zero, Int.reduceAdd] at g6)
              refine v_aload_n (n := 49) xB_50 dX5_number_48 rfl rfl ?_
              refine v_gf_s (n := 52) (kz := 0) xB_50 dX5_number_49 xO_50 fl_5_9 fg_5_0 (sh_53 _ _ _) rfl st_53_0 rfl ?_
              refine v_aload_n (n := 53) xB_50 dX5_number_52 rfl rfl ?_
              refine v_gf_i (n := 56) (kz := 2) xB_50 dX5_number_53 xO_50 fl_5_28 fg_5_2 rfl (sh_53 _ _ _) rfl rfl ?_
              refine v_iaload (n := 57) (lz := 100) xB_50 dX5_number_56 (sh_54 _ _ _) rfl (by first | omega | (simp only [sA_same, sA_s, ud_s, Int.reduceEq, if_true, if_false, ite_true, ite_false, ↓reduceIte, and_true, true_and, eq_self, Int.add_zero, Int.reduceAdd]; omega) | (simp (disch := omega) only [sA_same, sA_ne, ud_eq, ud_ne, Int.add_zero, Int.reduceAdd]; omega)) rfl ?_
              refine v_bipush (n := 59) xB_50 dX5_number_57 ⟨by decide, by decide⟩ rfl ?_
              refine v_isub (n := 60) xB_50 dX5_number_59 (by first | omega | (simp only [sA_same, sA_s, ud_s, Int.reduceEq, if_true, if_false, ite_true, ite_false, ↓reduceIte, and_true, true_and, eq_self, Int.add_zero, Int.reduceAdd]; omega) | (simp (disch := omega) only [sA_same, sA_ne, ud_eq, ud_ne, Int.add_zero, Int.reduceAdd]; omega)) rfl ?_
              refine v_istore_n3 (n := 61) xB_50 dX5_number_60 rfl rfl ?_
              refine v_iload_n (n := 62) xB_50 dX5_number_61 rfl rfl ?_
              refine v_if_ge_y (t := 69) xB_50 dX5_number_62 (by decide) rfl (by first | omega | (simp only [sA_same, sA_s, ud_s, Int.reduceEq, if_true, if_false, ite_true, ite_false, ↓reduceIte, and_true, true_and, eq_self, Int.add_zero, Int.reduceAdd]; omega) | (simp (disch := omega) only [sA_same, sA_ne, ud_eq, ud_ne, Int.add_zero, Int.reduceAdd]; omega)) ?_
              refine v_bipush (n := 71) xB_50 dX5_number_69 ⟨by decide, by decide⟩ rfl ?_
              refine v_iload_n (n := 72) xB_50 dX5_number_71 rfl rfl ?_
              refine v_imul (n := 73) xB_50 dX5_number_72 (by first | omega | (simp only [sA_same, sA_s, ud_s, Int.reduceEq, if_true, if_false, ite_true, ite_false, ↓reduceIte, and_true, true_and, eq_self, Int.add_zero, Int.reduceAdd]; omega) | (simp (disch := omega) only [sA_same, sA_ne, ud_eq, ud_ne, Int.add_zero, Int.reduceAdd]; omega)) rfl ?_
              refine v_iload_n (n := 74) xB_50 dX5_number_73 rfl rfl ?_
              refine v_iadd (n := 75) xB_50 dX5_number_74 (by first | omega | (simp only [sA_same, sA_s, ud_s, Int.reduceEq, if_true, if_false, ite_true, ite_false, ↓reduceIte, and_true, true_and, eq_self, Int.add_zero, Int.reduceAdd]; omega) | (simp (disch := omega) only [sA_same, sA_ne, ud_eq, ud_ne, Int.add_zero, Int.reduceAdd]; omega)) rfl ?_
              refine v_istore_n1 (n := 76) xB_50 dX5_number_75 rfl rfl ?_
              refine v_aload_n (n := 77) xB_50 dX5_number_76 rfl rfl ?_
              refine v_dup (n := 78) xB_50 dX5_number_77 rfl rfl ?_
              refine v_gf_i (n := 81) (kz := 2) xB_50 dX5_number_78 xO_50 fl_5_28 fg_5_2 rfl (sh_53 _ _ _) rfl rfl ?_
              refine v_iconst (n := 82) xB_50 dX5_number_81 ⟨by decide, by decide⟩ rfl ?_
              refine v_iadd (n := 83) xB_50 dX5_number_82 (by first | omega | (simp only [sA_same, sA_s, ud_s, Int.reduceEq, if_true, if_false, ite_true, ite_false, ↓reduceIte, and_true, true_and, eq_self, Int.add_zero, Int.reduceAdd]; omega) | (simp (disch := omega) only [sA_same, sA_ne, ud_eq, ud_ne, Int.add_zero, Int.reduceAdd]; omega)) rfl ?_
              refine v_pf_i (n := 86) (kz := 2) xB_50 dX5_number_83 xO_50 fl_5_28 fg_5_2 (Or.inl fn_5_2) (sh_53 _ _ _) (by decide) rfl rfl ?_
              (try simp (disch := omega) only [sA_same, sA_ne, sA_sA, sA_sr, sB_s, ud_eq, ud_ne, ud_ud, ud_sr, uB_s, Int.add_zero, Int.reduceAdd])
              refine v_iinc2 (n := 89) xB_50 dX5_number_86 rfl (by first | omega | (simp only [sA_same, sA_s, ud_s, Int.reduceEq, if_true, if_false, ite_true, ite_false, ↓reduceIte, and_true, true_and, eq_self, Int.add_zero, Int.reduceAdd]; omega) | (simp (disch := omega) only [sA_same, sA_ne, ud_eq, ud_ne, Int.add_zero, Int.reduceAdd]; omega)) rfl ?_
              refine v_goto (t := 4) xB_50 dX5_number_89 (by decide) rfl ?_
              refine v_iload_n (n := 5) xB_50 dX5_number_4 rfl rfl ?_
              refine v_iconst (n := 6) xB_50 dX5_number_5 ⟨by decide, by decide⟩ rfl ?_
              refine v_ic_ge_y (t := 92) xB_50 dX5_number_6 (by decide) rfl (by decide) ?_
              refine v_iload_n (n := 93) xB_50 dX5_number_92 rfl rfl ?_
              refine v_ireturn0 xB_50 dX5_number_93 xK_50 ?_
              first
              | (rw [nmv0 _ _ _ (by first | (rw [nx_f (by omega)]; omega) | (rw [nx_t (by omega)]; omega))] at o1; rw [ud_id, sA_id] at o1; exact o1)
              | (rw [nmv1 _ _ _ (by rw [nx_t (by omega)]; omega) (by first | (rw [nx_f (by omega)]; omega) | (rw [nx_t (by omega)]; omega)), nx_t (by omega)] at o1; exact o1)
              | (rw [nmv2 _ _ _ (by rw [nx_t (by omega)]; omega) (by rw [nx_t (by omega)]; omega), nx_t (by omega), nx_t (by omega)] at o1; dsimp only at o1; first | exact o1 | (rw [show ∀ x y : Int, 10 * x + y - 48 = 10 * x + (y - 48) from fun x y => by omega] at o1; exact o1))
def ioA (io : Int) : Prop := io = 55 ∨ io = 57
theorem sh_io {io : Int} (h : ioA io) (m : PM) (d : List (Nat × Nat)) (L : Nat) : shp (m, (none, (d, L))) io = (0, 7) := by
  rcases h with rfl | rfl <;> exact Eq.trans rfl rfl
theorem sh_ioA {io : Int} (h : ioA io) (m : PM) (d : List (Nat × Nat)) (L : Nat) : shp (m, (none, (d, L))) (io + 1) = (1, 100) := by
  rcases h with rfl | rfl <;> exact Eq.trans rfl rfl
theorem st_io {io : Int} (h : ioA io) : stat io 0 = some (io + 1) := by
  rcases h with rfl | rfl <;> decide +kernel
theorem st_53_7 : stat 53 7 = none := by decide +kernel
set_option maxHeartbeats 1000000 in
theorem k_stepadd {d : Nat} {io z : Int} {m : PM} {dy : List (Nat × Nat)} {L : Nat} {Q : Option PV → PS → Prop} (hd : 1 ≤ d) (hio : ioA io) (hz : 0 ≤ m io 1 ∧ m io 1 < 100) (o1 : Q (none) (setA (setA m io (ud (m io) 1 (m io 1 + 1))) (io + 1) (ud (m (io + 1)) (m io 1) z), (none, (dy, L)))) : C d 55 [.inr (.inr io), .inl z] (m, (none, (dy, L))) Q := by
  refine C_go (k := 0) hd xL_55 (fun d hd => ?_)
  show V d 55 (0, ([some (.inr (.inr io)), some (.inl z)], ([], (m, (none, (dy, L)))))) Q
  refine v_aload_n (n := 1) xB_55 dX7_add_0 rfl rfl ?_
  refine v_gf_i (n := 4) (kz := 1) xB_55 dX7_add_1 xO_55 fl_7_15 fg_7_1 rfl (sh_io hio _ _ _) rfl rfl ?_
  refine v_bipush (n := 6) xB_55 dX7_add_4 ⟨by decide, by decide⟩ rfl ?_
  refine v_ic_ge_n (n := 9) xB_55 dX7_add_6 (by decide) rfl (by first | omega | (simp only [sA_same, sA_s, ud_s, Int.reduceEq, if_true, if_false, ite_true, ite_false, ↓reduceIte, and_true, true_and, eq_self, Int.add_zero, Int.reduceAdd]; omega) | (simp (disch := omega) only [sA_same, sA_ne, ud_eq, ud_ne, Int.add_zero, Int.reduceAdd]; omega)) ?_
  refine v_aload_n (n := 10) xB_55 dX7_add_9 rfl rfl ?_
  refine v_gf_s (n := 13) (kz := 0) xB_55 dX7_add_10 xO_55 fl_7_9 fg_7_0 (sh_io hio _ _ _) rfl (st_io hio) rfl ?_
  refine v_aload_n (n := 14) xB_55 dX7_add_13 rfl rfl ?_
  refine v_gf_i (n := 17) (kz := 1) xB_55 dX7_add_14 xO_55 fl_7_15 fg_7_1 rfl (sh_io hio _ _ _) rfl rfl ?_
  refine v_iload_n (n := 18) xB_55 dX7_add_17 rfl rfl ?_
  refine v_iastore (n := 19) (lz := 100) xB_55 dX7_add_18 (sh_ioA hio _ _ _) (by unfold ioA at hio; omega) rfl (by first | omega | (simp only [sA_same, sA_s, ud_s, Int.reduceEq, if_true, if_false, ite_true, ite_false, ↓reduceIte, and_true, true_and, eq_self, Int.add_zero, Int.reduceAdd]; omega) | (simp (disch := omega) only [sA_same, sA_ne, ud_eq, ud_ne, Int.add_zero, Int.reduceAdd]; omega)) rfl ?_
  (try simp (disch := omega) only [sA_same, sA_ne, sA_sA, sA_sr, sB_s, ud_eq, ud_ne, ud_ud, ud_sr, uB_s, Int.add_zero, Int.reduceAdd])
  refine v_aload_n (n := 20) xB_55 dX7_add_19 rfl rfl ?_
  refine v_dup (n := 21) xB_55 dX7_add_20 rfl rfl ?_
  refine v_gf_i (n := 24) (kz := 1) xB_55 dX7_add_21 xO_55 fl_7_15 fg_7_1 rfl (sh_io hio _ _ _) rfl rfl ?_
  refine v_iconst (n := 25) xB_55 dX7_add_24 ⟨by decide, by decide⟩ rfl ?_
  refine v_iadd (n := 26) xB_55 dX7_add_25 (by first | omega | (simp only [sA_same, sA_s, ud_s, Int.reduceEq, if_true, if_false, ite_true, ite_false, ↓reduceIte, and_true, true_and, eq_self, Int.add_zero, Int.reduceAdd]; omega) | (simp (disch := omega) only [sA_same, sA_ne, ud_eq, ud_ne, Int.add_zero, Int.reduceAdd]; omega)) rfl ?_
  refine v_pf_i (n := 29) (kz := 1) xB_55 dX7_add_26 xO_55 fl_7_15 fg_7_1 (Or.inl fn_7_1) (sh_io hio _ _ _) (by unfold ioA at hio; omega) rfl rfl ?_
  (try simp (disch := omega) only [sA_same, sA_ne, sA_sA, sA_sr, sB_s, ud_eq, ud_ne, ud_ud, ud_sr, uB_s, Int.add_zero, Int.reduceAdd])
  refine v_return xB_55 dX7_add_29 xK_55 ?_
  (try simp (disch := omega) only [sA_same, sA_ne, sA_sA, sA_sr, sB_s, ud_eq, ud_ne, ud_ud, ud_sr, uB_s, Int.add_zero, Int.reduceAdd])
  exact o1
