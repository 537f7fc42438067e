/-! What is asked: what it leaves, on both sides. -/
def tr (c : Int → Int) : Int → Int := fun s => if 0 ≤ s ∧ s < 12 then c s else 0
theorem tr_at {c : Int → Int} {s : Int} (h : 0 ≤ s ∧ s < 12) : tr c s = c s := if_pos h
def pc (m : PM) : Int → Int := tr (pkA (m 96) (m 99))
def JF (m : PM) (dy : List (Nat × Nat)) (CF : Int → CLs) : Prop := ∀ j, 0 ≤ j → j < m 81 5 → JC m dy (m 59 j) (CF j) ∧ JR m j (CF j)
theorem JF_of {m : PM} {dy : List (Nat × Nat)} (h : JbR m dy) : ∃ CF, JF m dy CF := by
  have key : ∀ j : Int, ∃ CL : CLs, 0 ≤ j → j < m 81 5 → JC m dy (m 59 j) CL ∧ JR m j CL := by
    intro j
    by_cases hj : 0 ≤ j ∧ j < m 81 5
    · obtain ⟨CL, h1⟩ := h.2.2.2.2 j hj.1 hj.2
      exact ⟨CL, fun _ _ => h1⟩
    · exact ⟨[], fun a b => absurd ⟨a, b⟩ hj⟩
  exact ⟨fun j => Classical.choose (key j), fun j => Classical.choose_spec (key j)⟩
def KFr (m m' : PM) : Prop := (∀ a : Int, a < 60 ∨ 65 < a → m' a = m a) ∧ okc (m' 61) ∧ okc (m' 63) ∧ okc (m' 65)
def RFr (m m' : PM) : Prop := (∀ a : Int, a < 81 ∨ 81 < a → a < 95 ∨ 103 < a → m' a = m a) ∧ (∀ k : Int, k < 29 ∨ 31 < k → m' 81 k = m 81 k) ∧ (bl (m' 99) ∧ pgs (m' 96) ∧ pgs (m' 97) ∧ pgs (m' 98) ∧ bl (m' 100) ∧ bl (m' 101) ∧ pgs (m' 102) ∧ bl (m' 103)) ∧ (∀ s, 0 ≤ s → s < 12 → pkA (m' 96) (m' 99) s = pkA (m 96) (m 99) s)
theorem KFr_refl {m0 m : PM} {dy : List (Nat × Nat)} (h : Inv m0 m dy) : KFr m m := ⟨fun _ _ => rfl, h.2.1.1, h.2.1.2.1, h.2.1.2.2.1⟩
theorem RFr_refl {m0 m : PM} {dy : List (Nat × Nat)} (h : Inv m0 m dy) : RFr m m := by
  obtain ⟨hSt, hSc, -⟩ := h
  obtain ⟨-, -, -, x4, x5, x6, x7, x8, x9⟩ := hSc
  exact ⟨fun _ _ _ => rfl, fun _ _ => rfl, ⟨hSt.2.2.2.1, hSt.2.2.2.2.1, x4, x5, x6, x7, x8, x9⟩, fun _ _ _ => rfl⟩
theorem KFr_trans {m m' m2 : PM} (h : KFr m m') (h2 : KFr m' m2) : KFr m m2 := ⟨fun a ha => (h2.1 a ha).trans (h.1 a ha), h2.2⟩
theorem RFr_trans {m m' m2 : PM} (h : RFr m m') (h2 : RFr m' m2) : RFr m m2 := ⟨fun a ha hb => (h2.1 a ha hb).trans (h.1 a ha hb), fun k hk => (h2.2.1 k hk).trans (h.2.1 k hk), h2.2.2.1, fun s a b => (h2.2.2.2 s a b).trans (h.2.2.2 s a b)⟩
theorem JF_K {m m' : PM} {dy : List (Nat × Nat)} {CF : Int → CLs} (h : JF m dy CF) (hf : KFr m m') : JF m' dy CF := by
  intro j h1 h2
  rw [hf.1 81 (by omega)] at h2
  rw [hf.1 59 (by omega)]
  refine ⟨JC_fr (fun a ha => hf.1 a (by omega)) _ _ _ (h j h1 h2).1, ?_⟩
  rw [JR_fr (hf.1 87 (by omega)) ⟨hf.1 88 (by omega), hf.1 89 (by omega), hf.1 90 (by omega), hf.1 91 (by omega), hf.1 92 (by omega)⟩]
  exact (h j h1 h2).2
theorem JF_R {m m' : PM} {dy : List (Nat × Nat)} {CF : Int → CLs} (h : JF m dy CF) (hf : RFr m m') : JF m' dy CF := by
  intro j h1 h2
  rw [hf.2.1 5 (by omega)] at h2
  rw [hf.1 59 (by omega) (by omega)]
  refine ⟨JC_fr (fun a ha => hf.1 a (by omega) (by omega)) _ _ _ (h j h1 h2).1, ?_⟩
  rw [JR_fr (hf.1 87 (by omega) (by omega)) ⟨hf.1 88 (by omega) (by omega), hf.1 89 (by omega) (by omega), hf.1 90 (by omega) (by omega), hf.1 91 (by omega) (by omega), hf.1 92 (by omega) (by omega)⟩]
  exact (h j h1 h2).2
theorem Inv_K {m0 m m' : PM} {dy : List (Nat × Nat)} (h : Inv m0 m dy) (hf : KFr m m') : Inv m0 m' dy := by
  obtain ⟨hSt, hSc, hTr, hSe, hPl, hBo, hIm, hHm, hTx, hAc, hTp, hJb, hCo⟩ := h
  exact ⟨(StR_fr (fun a q1 q2 => hf.1 a (by omega)) (fun a q1 q2 => hf.1 a (by omega)) (fun a q1 q2 => hf.1 a (by omega)) (by rw [hf.1 _ (by omega)])  hSt), (by have q := hSc; unfold ScR at q ⊢; rw [hf.1 97 (by omega), hf.1 98 (by omega), hf.1 100 (by omega), hf.1 101 (by omega), hf.1 102 (by omega), hf.1 103 (by omega)]; exact ⟨hf.2.1, hf.2.2.1, hf.2.2.2, q.2.2.2⟩), (TrR_fr (fun a q1 q2 => hf.1 a (by omega)) (fun a q1 q2 => hf.1 a (by omega)) (by rw [hf.1 _ (by omega)]) (by rw [hf.1 _ (by omega)]) hTr), (SeR_fr (fun a q1 q2 => hf.1 a (by omega)) (fun a q1 q2 => hf.1 a (by omega)) (by rw [hf.1 _ (by omega)])  hSe), (PlR_fr (fun a q1 q2 => hf.1 a (by omega)) (fun a q1 q2 => hf.1 a (by omega)) (by rw [hf.1 _ (by omega)]) (by rw [hf.1 _ (by omega)]) (by rw [hf.1 _ (by omega)])  hPl), (BoR_fr (fun a q1 q2 => hf.1 a (by omega)) (fun a q1 q2 => hf.1 a (by omega)) (by rw [hf.1 _ (by omega)])  hBo), (fun q => have qq := hIm (Eq.trans (Eq.symm (by rw [hf.1 _ (by omega)])) q); ⟨(ImS_fr (fun a q1 q2 => hf.1 a (by omega)) (fun a q1 q2 => hf.1 a (by omega)) (fun a q1 q2 => hf.1 a (by omega)) (by rw [hf.1 _ (by omega)])  qq.1), (ImT_fr (fun a q1 q2 => hf.1 a (by omega)) (fun a q1 q2 => hf.1 a (by omega)) (by rw [hf.1 _ (by omega)]) (by rw [hf.1 _ (by omega)]) qq.2.1), (ImN_fr (fun a q1 q2 => hf.1 a (by omega)) (fun a q1 q2 => hf.1 a (by omega)) (by rw [hf.1 _ (by omega)])  qq.2.2.1), (ImP_fr (fun a q1 q2 => hf.1 a (by omega)) (fun a q1 q2 => hf.1 a (by omega)) (by rw [hf.1 _ (by omega)]) (by rw [hf.1 _ (by omega)]) (by rw [hf.1 _ (by omega)])  qq.2.2.2.1), (ImB_fr (fun a q1 q2 => hf.1 a (by omega)) (fun a q1 q2 => hf.1 a (by omega)) (by rw [hf.1 _ (by omega)])  qq.2.2.2.2)⟩), (HmR_fr  (by rw [hf.1 _ (by omega)]) (by rw [hf.1 _ (by omega)]) hHm), (TxR_fr (fun a q1 q2 => hf.1 a (by omega)) (fun a q1 q2 => hf.1 a (by omega)) (by rw [hf.1 _ (by omega)]) (by rw [hf.1 _ (by omega)]) hTx), (AcR_fr (fun a q1 q2 => hf.1 a (by omega)) (fun a q1 q2 => hf.1 a (by omega)) (by rw [hf.1 _ (by omega)]) (by rw [hf.1 _ (by omega)]) hAc), (TpR_fr (fun a q1 q2 => hf.1 a (by omega)) (fun a q1 q2 => hf.1 a (by omega))   hTp), (JbR_fr (fun a q1 => hf.1 a (by omega)) (fun a q1 q2 => hf.1 a (by omega)) (by rw [hf.1 _ (by omega)]) (by rw [hf.1 _ (by omega)]) (by rw [hf.1 _ (by omega)]) hJb), (CoR_fr (fun a q1 => hf.1 a (by omega)) (by rw [hf.1 _ (by omega)]) hCo)⟩
theorem Inv_R {m0 m m' : PM} {dy : List (Nat × Nat)} (h : Inv m0 m dy) (hf : RFr m m') : Inv m0 m' dy := by
  obtain ⟨hSt, hSc, hTr, hSe, hPl, hBo, hIm, hHm, hTx, hAc, hTp, hJb, hCo⟩ := h
  have e22 : m' 81 22 = m 81 22 := hf.2.1 22 (by omega)
  exact ⟨(StR_new (N := m 81 22) hSt.1 hSt.2.2.1 hf.2.2.1.1 hf.2.2.1.2.1 (fun s a b => by rw [hf.2.2.2 s a (by have := hSt.1; omega)]; exact hSt.2.2.2.2.2 s a b) e22 (by rw [hf.1 2 (by omega) (by omega)]; exact hSt.2.1) (hf.1 3 (by omega) (by omega)) rfl rfl), (by have q := hSc; unfold ScR at q ⊢; rw [hf.1 61 (by omega) (by omega), hf.1 63 (by omega) (by omega), hf.1 65 (by omega) (by omega)]; exact ⟨q.1, q.2.1, q.2.2.1, hf.2.2.1.2.2⟩), (TrR_fr (fun a q1 q2 => hf.1 a (by omega) (by omega)) (fun a q1 q2 => hf.1 a (by omega) (by omega)) (by first | exact hf.2.1 _ (by omega) | (rw [hf.1 _ (by omega) (by omega)])) (by first | exact hf.2.1 _ (by omega) | (rw [hf.1 _ (by omega) (by omega)])) hTr), (SeR_fr (fun a q1 q2 => hf.1 a (by omega) (by omega)) (fun a q1 q2 => hf.1 a (by omega) (by omega)) (by first | exact hf.2.1 _ (by omega) | (rw [hf.1 _ (by omega) (by omega)]))  hSe), (PlR_fr (fun a q1 q2 => hf.1 a (by omega) (by omega)) (fun a q1 q2 => hf.1 a (by omega) (by omega)) (by first | exact hf.2.1 _ (by omega) | (rw [hf.1 _ (by omega) (by omega)])) (by first | exact hf.2.1 _ (by omega) | (rw [hf.1 _ (by omega) (by omega)])) (by first | exact hf.2.1 _ (by omega) | (rw [hf.1 _ (by omega) (by omega)]))  hPl), (BoR_fr (fun a q1 q2 => hf.1 a (by omega) (by omega)) (fun a q1 q2 => hf.1 a (by omega) (by omega)) (by first | exact hf.2.1 _ (by omega) | (rw [hf.1 _ (by omega) (by omega)]))  hBo), (fun q => have qq := hIm (Eq.trans (Eq.symm (by first | exact hf.2.1 _ (by omega) | (rw [hf.1 _ (by omega) (by omega)]))) q); ⟨(ImS_fr (fun a q1 q2 => hf.1 a (by omega) (by omega)) (fun a q1 q2 => hf.1 a (by omega) (by omega)) (fun a q1 q2 => hf.1 a (by omega) (by omega)) (by first | exact hf.2.1 _ (by omega) | (rw [hf.1 _ (by omega) (by omega)]))  qq.1), (ImT_fr (fun a q1 q2 => hf.1 a (by omega) (by omega)) (fun a q1 q2 => hf.1 a (by omega) (by omega)) (by first | exact hf.2.1 _ (by omega) | (rw [hf.1 _ (by omega) (by omega)])) (by first | exact hf.2.1 _ (by omega) | (rw [hf.1 _ (by omega) (by omega)])) qq.2.1), (ImN_fr (fun a q1 q2 => hf.1 a (by omega) (by omega)) (fun a q1 q2 => hf.1 a (by omega) (by omega)) (by first | exact hf.2.1 _ (by omega) | (rw [hf.1 _ (by omega) (by omega)]))  qq.2.2.1), (ImP_fr (fun a q1 q2 => hf.1 a (by omega) (by omega)) (fun a q1 q2 => hf.1 a (by omega) (by omega)) (by first | exact hf.2.1 _ (by omega) | (rw [hf.1 _ (by omega) (by omega)])) (by first | exact hf.2.1 _ (by omega) | (rw [hf.1 _ (by omega) (by omega)])) (by first | exact hf.2.1 _ (by omega) | (rw [hf.1 _ (by omega) (by omega)]))  qq.2.2.2.1), (ImB_fr (fun a q1 q2 => hf.1 a (by omega) (by omega)) (fun a q1 q2 => hf.1 a (by omega) (by omega)) (by first | exact hf.2.1 _ (by omega) | (rw [hf.1 _ (by omega) (by omega)]))  qq.2.2.2.2)⟩), (HmR_fr  (by first | exact hf.2.1 _ (by omega) | (rw [hf.1 _ (by omega) (by omega)])) (by first | exact hf.2.1 _ (by omega) | (rw [hf.1 _ (by omega) (by omega)])) hHm), (TxR_fr (fun a q1 q2 => hf.1 a (by omega) (by omega)) (fun a q1 q2 => hf.1 a (by omega) (by omega)) (by first | exact hf.2.1 _ (by omega) | (rw [hf.1 _ (by omega) (by omega)])) (by first | exact hf.2.1 _ (by omega) | (rw [hf.1 _ (by omega) (by omega)])) hTx), (AcR_fr (fun a q1 q2 => hf.1 a (by omega) (by omega)) (fun a q1 q2 => hf.1 a (by omega) (by omega)) (by first | exact hf.2.1 _ (by omega) | (rw [hf.1 _ (by omega) (by omega)])) (by first | exact hf.2.1 _ (by omega) | (rw [hf.1 _ (by omega) (by omega)])) hAc), (TpR_fr (fun a q1 q2 => hf.1 a (by omega) (by omega)) (fun a q1 q2 => hf.1 a (by omega) (by omega))   hTp), (JbR_fr (fun a q1 => hf.1 a (by omega) (by omega)) (fun a q1 q2 => hf.1 a (by omega) (by omega)) (by first | exact hf.2.1 _ (by omega) | (rw [hf.1 _ (by omega) (by omega)])) (by first | exact hf.2.1 _ (by omega) | (rw [hf.1 _ (by omega) (by omega)])) (by first | exact hf.2.1 _ (by omega) | (rw [hf.1 _ (by omega) (by omega)])) hJb), (CoR_fr (fun a q1 => hf.1 a (by omega) (by omega)) (by first | exact hf.2.1 _ (by omega) | (rw [hf.1 _ (by omega) (by omega)])) hCo)⟩
def AE (m m' : PM) : Prop := pc m' = pc m ∧ m' 81 22 = m 81 22 ∧ m' 81 0 = m 81 0 ∧ m' 81 5 = m 81 5 ∧ m' 82 = m 82 ∧ m' 83 = m 83 ∧ m' 85 = m 85 ∧ m' 81 34 = m 81 34 ∧ m' 104 = m 104 ∧ m' 105 = m 105 ∧ m' 81 37 = m 81 37 ∧ m' 106 = m 106 ∧ m' 107 = m 107 ∧ m' 108 = m 108
theorem AE_K {m m' : PM} (h : KFr m m') : AE m m' := ⟨by unfold pc; rw [h.1 96 (by omega), h.1 99 (by omega)], by rw [h.1 81 (by omega)], by rw [h.1 81 (by omega)], by rw [h.1 81 (by omega)], by rw [h.1 82 (by omega)], by rw [h.1 83 (by omega)], by rw [h.1 85 (by omega)], by rw [h.1 81 (by omega)], by rw [h.1 104 (by omega)], by rw [h.1 105 (by omega)], by rw [h.1 81 (by omega)], by rw [h.1 106 (by omega)], by rw [h.1 107 (by omega)], by rw [h.1 108 (by omega)]⟩
theorem pc_R {m m' : PM} (h : RFr m m') : pc m' = pc m := by
  unfold pc; funext s
  by_cases hs : 0 ≤ s ∧ s < 12
  · rw [tr_at hs, tr_at hs, h.2.2.2 s hs.1 hs.2]
  · unfold tr; rw [if_neg hs, if_neg hs]
theorem AE_R {m m' : PM} (h : RFr m m') : AE m m' := ⟨pc_R h, h.2.1 22 (by omega), h.2.1 0 (by omega), h.2.1 5 (by omega), h.1 82 (by omega) (by omega), h.1 83 (by omega) (by omega), h.1 85 (by omega) (by omega), h.2.1 34 (by omega), h.1 104 (by omega) (by omega), h.1 105 (by omega) (by omega), h.2.1 37 (by omega), h.1 106 (by omega) (by omega), h.1 107 (by omega) (by omega), h.1 108 (by omega) (by omega)⟩
theorem oF_congr {k v N : Int} {CL : CLs} {c c' pt pt' : Int → Int} (h : ∀ s, 0 ≤ s → s < N → c s = c' s) (hp : ∀ i, 0 ≤ i → i < 4 → pt i = pt' i) {n : Nat} (hn : (n : Int) < N) : oF k v pt CL N c n = oF k v pt' CL N c' n := by
  unfold oF
  rw [h (if k = 4 then N - 1 - n else n) (by split <;> omega) (by split <;> omega), hp ((n : Int) % 4) (by omega) (by omega)]
theorem cF_congr {k v N : Int} {CL : CLs} {c c' pt pt' : Int → Int} (h : ∀ s, 0 ≤ s → s < N → c s = c' s) (hp : ∀ i, 0 ≤ i → i < 4 → pt i = pt' i) {s : Int} (h0 : 0 ≤ s) (h1 : s < N) : cF k v pt CL N c s = cF k v pt' CL N c' s := by
  unfold cF
  by_cases hs : s < N - TF k v CL N
  · rw [if_pos hs, if_pos hs, h _ (by split <;> omega) (by split <;> omega)]
  · rw [if_neg hs, if_neg hs, oF_congr h hp (by omega)]
/-- a pile after a run -/
def RQ (m : PM) (CF : Int → CLs) (N : Int) (c : Int → Int) (t v j : Int) : Int → Int := cF (m 82 t) v (fun x => m 85 (4 * t + x)) (CF j) N c
def RA (m : PM) (CF : Int → CLs) (t v j : Int) : Int → Int := RQ m CF (m 81 22) (pc m) t v j
theorem RQ_AE {m m' : PM} (h : AE m m') (CF : Int → CLs) : RQ m' CF = RQ m CF := by
  obtain ⟨a1, a2, a3, a4, a5, a6, a7, -⟩ := h
  funext N c t v j; unfold RQ; rw [a5, a7]
theorem RA_AE {m m' : PM} (h : AE m m') (CF : Int → CLs) : RA m' CF = RA m CF := by
  funext t v j; unfold RA; rw [RQ_AE h, h.1, h.2.1]
theorem RQ_congr {m : PM} {CF : Int → CLs} {N : Int} {c c' : Int → Int} (t v j : Int) (h : ∀ s, 0 ≤ s → s < N → c s = c' s) {s : Int} (h0 : 0 ≤ s) (h1 : s < N) : RQ m CF N c t v j s = RQ m CF N c' t v j s := cF_congr h (fun _ _ _ => rfl) h0 h1
theorem pc_at {m : PM} (h : 0 ≤ m 81 22 ∧ m 81 22 ≤ 12) {s : Int} (h0 : 0 ≤ s) (h1 : s < m 81 22) : pc m s = pkA (m 96) (m 99) s := tr_at ⟨h0, by omega⟩
def TQ (m : PM) (CF : Int → CLs) (N t v j : Int) : Int := TF (m 82 t) v (CF j) N
def PQ (m : PM) (CF : Int → CLs) (N t v j : Int) : Int := prF (m 82 t) v (TF (m 82 t) v (CF j) N)
theorem TQ_AE {m m' : PM} (h : AE m m') (CF : Int → CLs) : TQ m' CF = TQ m CF := by
  funext N t v j; unfold TQ; rw [h.2.2.2.2.1]
theorem PQ_AE {m m' : PM} (h : AE m m') (CF : Int → CLs) : PQ m' CF = PQ m CF := by
  funext N t v j; unfold PQ; rw [h.2.2.2.2.1]
theorem PairI_q {m0 : PM} {L mx mm : Nat} {ax am : List PV} {A : PM → (Int → CLs) → Int}
  (hk : ∀ (m : PM) (dy : List (Nat × Nat)) (CF : Int → CLs), Inv m0 m dy → JF m dy CF → ∀ (d : Nat) (Q : Option PV → PS → Prop), 60 ≤ d → (∀ m', KFr m m' → Q (some (.inl (A m CF))) (m', (none, (dy, L)))) → C d mx ax (m, (none, (dy, L))) Q)
  (hc : ∀ (m : PM) (dy : List (Nat × Nat)) (CF : Int → CLs), Inv m0 m dy → JF m dy CF → ∀ (d : Nat) (Q : Option PV → PS → Prop), 60 ≤ d → (∀ m', RFr m m' → Q (some (.inl (A m CF))) (m', (none, (dy, L)))) → C d mm am (m, (none, (dy, L))) Q)
  (hA : ∀ (m m' : PM) (CF : Int → CLs), AE m m' → A m' CF = A m CF) : PairI m0 L mx mm ax am := by
  intro m dy h D W hD hW
  obtain ⟨CF, hJ⟩ := JF_of h.2.2.2.2.2.2.2.2.2.2.2.1
  refine hk m dy CF h hJ D W hD (fun m1 hm1 => ?_)
  refine hW _ _ _ (fun D2 W2 hD2 hW2 => ?_)
  refine hc m1 dy CF (Inv_K h hm1) (JF_K hJ hm1) D2 W2 hD2 (fun m2 hm2 => ?_)
  rw [hA m m1 CF (AE_K hm1)]
  exact hW2 m2 (Inv_R (Inv_K h hm1) hm2)
theorem PairL_q {m0 : PM} {L mx mm : Nat} {ax am : List PV} {A : PM → (Int → CLs) → Int}
  (hk : ∀ (m : PM) (dy : List (Nat × Nat)) (CF : Int → CLs), Inv m0 m dy → JF m dy CF → ∀ (d : Nat) (Q : Option PV → PS → Prop), 60 ≤ d → (∀ m', KFr m m' → Q (some (.inr (.inl (A m CF)))) (m', (none, (dy, L)))) → C d mx ax (m, (none, (dy, L))) Q)
  (hc : ∀ (m : PM) (dy : List (Nat × Nat)) (CF : Int → CLs), Inv m0 m dy → JF m dy CF → ∀ (d : Nat) (Q : Option PV → PS → Prop), 60 ≤ d → (∀ m', RFr m m' → Q (some (.inr (.inl (A m CF)))) (m', (none, (dy, L)))) → C d mm am (m, (none, (dy, L))) Q)
  (hA : ∀ (m m' : PM) (CF : Int → CLs), AE m m' → A m' CF = A m CF) : PairL m0 L mx mm ax am := by
  intro m dy h D W hD hW
  obtain ⟨CF, hJ⟩ := JF_of h.2.2.2.2.2.2.2.2.2.2.2.1
  refine hk m dy CF h hJ D W hD (fun m1 hm1 => ?_)
  refine hW _ _ _ (fun D2 W2 hD2 hW2 => ?_)
  refine hc m1 dy CF (Inv_K h hm1) (JF_K hJ hm1) D2 W2 hD2 (fun m2 hm2 => ?_)
  rw [hA m m1 CF (AE_K hm1)]
  exact hW2 m2 (Inv_R (Inv_K h hm1) hm2)
theorem q_eqI {Q : Option PV → PS → Prop} {x y : Int} {σ : PS} (h : Q (some (.inl x)) σ) (e : x = y) : Q (some (.inl y)) σ := e ▸ h
theorem q_eqL {Q : Option PV → PS → Prop} {x y : Int} {σ : PS} (h : Q (some (.inr (.inl x))) σ) (e : x = y) : Q (some (.inr (.inl y))) σ := e ▸ h
