/-! What holds between the calls: the class and the reference hold the same. -/
def StR (m : PM) : Prop := (0 ≤ m 81 22 ∧ m 81 22 ≤ 12) ∧ m 2 1 = m 81 22 ∧ okc (m 3) ∧ bl (m 99) ∧ pgs (m 96) ∧ (∀ s, 0 ≤ s → s < m 81 22 → m 3 s = pkA (m 96) (m 99) s)
theorem StR_fr {m m' : PM} (h0 : ∀ a : Int, 2 ≤ a → a ≤ 3 → m' a = m a) (h1 : ∀ a : Int, 96 ≤ a → a ≤ 96 → m' a = m a) (h2 : ∀ a : Int, 99 ≤ a → a ≤ 99 → m' a = m a) (f22 : m' 81 22 = m 81 22)  (h : StR m) : StR m' := by
  unfold StR at *
  rw [h0 2 (by omega) (by omega), h0 3 (by omega) (by omega), h1 96 (by omega) (by omega), h2 99 (by omega) (by omega), f22]
  exact h
def ScR (m : PM) : Prop := okc (m 61) ∧ okc (m 63) ∧ okc (m 65) ∧ pgs (m 97) ∧ pgs (m 98) ∧ bl (m 100) ∧ bl (m 101) ∧ pgs (m 102) ∧ bl (m 103)
theorem ScR_fr {m m' : PM} (h0 : ∀ a : Int, 61 ≤ a → a ≤ 61 → m' a = m a) (h1 : ∀ a : Int, 63 ≤ a → a ≤ 63 → m' a = m a) (h2 : ∀ a : Int, 65 ≤ a → a ≤ 65 → m' a = m a) (h3 : ∀ a : Int, 97 ≤ a → a ≤ 98 → m' a = m a) (h4 : ∀ a : Int, 100 ≤ a → a ≤ 103 → m' a = m a)   (h : ScR m) : ScR m' := by
  unfold ScR at *
  rw [h0 61 (by omega) (by omega), h1 63 (by omega) (by omega), h2 65 (by omega) (by omega), h3 97 (by omega) (by omega), h3 98 (by omega) (by omega), h4 100 (by omega) (by omega), h4 101 (by omega) (by omega), h4 102 (by omega) (by omega), h4 103 (by omega) (by omega)]
  exact h
def TrR (m : PM) : Prop := (0 ≤ m 81 0 ∧ m 81 0 ≤ 5) ∧ m 1 2 = m 81 0 ∧ r9 (m 85) ∧ (∀ t, 0 ≤ t → t < 5 → m (17 + 2 * t) 0 = m 82 t ∧ m (17 + 2 * t) 1 = m 83 t ∧ m (17 + 2 * t) 2 = m 84 t ∧ (∀ i, 0 ≤ i → i < 4 → m (18 + 2 * t) i = m 85 (4 * t + i)) ∧ (0 ≤ m 82 t ∧ m 82 t ≤ 6) ∧ (0 ≤ m 83 t ∧ m 83 t ≤ 9) ∧ (0 ≤ m 84 t ∧ m 84 t ≤ 9999) ∧ r9 (m (18 + 2 * t)))
theorem TrR_fr {m m' : PM} (h0 : ∀ a : Int, 17 ≤ a → a ≤ 26 → m' a = m a) (h1 : ∀ a : Int, 82 ≤ a → a ≤ 85 → m' a = m a) (f0 : m' 81 0 = m 81 0) (e1_2 : m' 1 2 = m 1 2) (h : TrR m) : TrR m' := by
  unfold TrR at *
  rw [h1 82 (by omega) (by omega), h1 83 (by omega) (by omega), h1 84 (by omega) (by omega), h1 85 (by omega) (by omega), f0, e1_2]
  refine ⟨h.1, h.2.1, h.2.2.1, fun t h3 h4 => ?_⟩
  rw [h0 (17 + 2 * t) (by omega) (by omega), h0 (18 + 2 * t) (by omega) (by omega)]
  exact h.2.2.2 t h3 h4
def SeR (m : PM) : Prop := (0 ≤ m 81 34 ∧ m 81 34 ≤ 5) ∧ m 5 3 = m 81 34 ∧ (∀ i, 0 ≤ i → i < m 81 34 → m 104 i = 2 * m 6 i + m 7 i ∧ m 105 i = m 8 i ∧ (0 ≤ m 6 i ∧ m 6 i ≤ 11) ∧ (m 7 i = 0 ∨ m 7 i = 1))
theorem SeR_fr {m m' : PM} (h0 : ∀ a : Int, 5 ≤ a → a ≤ 8 → m' a = m a) (h1 : ∀ a : Int, 104 ≤ a → a ≤ 105 → m' a = m a) (f34 : m' 81 34 = m 81 34)  (h : SeR m) : SeR m' := by
  unfold SeR at *
  rw [h0 5 (by omega) (by omega), h0 6 (by omega) (by omega), h0 7 (by omega) (by omega), h0 8 (by omega) (by omega), h1 104 (by omega) (by omega), h1 105 (by omega) (by omega), f34]
  exact h
def BoR (m : PM) : Prop := (0 ≤ m 81 38 ∧ m 81 38 ≤ 8) ∧ m 13 3 = m 81 38 ∧ (∀ i, 0 ≤ i → i < m 81 38 → m 109 i = 2 * m 14 i + m 15 i ∧ m 110 i = m 16 i ∧ (0 ≤ m 14 i ∧ m 14 i ≤ 11) ∧ (m 15 i = 0 ∨ m 15 i = 1))
theorem BoR_fr {m m' : PM} (h0 : ∀ a : Int, 13 ≤ a → a ≤ 16 → m' a = m a) (h1 : ∀ a : Int, 109 ≤ a → a ≤ 110 → m' a = m a) (f38 : m' 81 38 = m 81 38)  (h : BoR m) : BoR m' := by
  unfold BoR at *
  rw [h0 13 (by omega) (by omega), h0 14 (by omega) (by omega), h0 15 (by omega) (by omega), h0 16 (by omega) (by omega), h1 109 (by omega) (by omega), h1 110 (by omega) (by omega), f38]
  exact h
def PlR (m : PM) : Prop := (0 ≤ m 81 37 ∧ m 81 37 ≤ 6) ∧ m 9 3 = m 81 37 ∧ (∀ i, 0 ≤ i → i < m 81 37 → m 106 i = m 10 i ∧ m 107 i = m 11 i ∧ m 108 i = (if m 10 i = 0 then m 12 i else 0) ∧ ((m 10 i = 0 ∧ (0 ≤ m 11 i ∧ m 11 i < m 81 0) ∧ (0 ≤ m 12 i ∧ m 12 i < m 81 5)) ∨ (m 10 i = 1 ∧ 0 ≤ m 11 i ∧ m 11 i ≤ 3) ∨ (m 10 i = 2 ∧ 1 ≤ m 11 i ∧ m 11 i ≤ 12)))
theorem PlR_fr {m m' : PM} (h0 : ∀ a : Int, 9 ≤ a → a ≤ 12 → m' a = m a) (h1 : ∀ a : Int, 106 ≤ a → a ≤ 108 → m' a = m a) (f37 : m' 81 37 = m 81 37) (f0 : m' 81 0 = m 81 0) (f5 : m' 81 5 = m 81 5)  (h : PlR m) : PlR m' := by
  unfold PlR at *
  rw [h0 9 (by omega) (by omega), h0 10 (by omega) (by omega), h0 11 (by omega) (by omega), h0 12 (by omega) (by omega), h1 106 (by omega) (by omega), h1 107 (by omega) (by omega), h1 108 (by omega) (by omega), f37, f0, f5]
  exact h
def okc12 (f : Int → Int) : Prop := ∀ s, 0 ≤ s → s < 12 → okS (f s)
def bl24 (f : Int → Int) : Prop := ∀ k, 0 ≤ k → k < 24 → f k = 0 ∨ f k = 1
def pgs24 (f : Int → Int) : Prop := ∀ k, 0 ≤ k → k < 24 → 0 ≤ f k ∧ f k < 128
def r9b (n : Int) (f : Int → Int) : Prop := ∀ k, 0 ≤ k → k < n → 0 ≤ f k ∧ f k ≤ 9
def ImS (m : PM) : Prop := (0 ≤ m 81 45 ∧ m 81 45 ≤ 12) ∧ m 28 1 = m 81 45 ∧ okc12 (m 29) ∧ bl24 (m 123) ∧ pgs24 (m 111) ∧ (∀ s, 0 ≤ s → s < m 81 45 → m 29 s = pkA (m 111) (m 123) s)
theorem ImS_fr {m m' : PM} (h0 : ∀ a : Int, 28 ≤ a → a ≤ 29 → m' a = m a) (h1 : ∀ a : Int, 111 ≤ a → a ≤ 111 → m' a = m a) (h2 : ∀ a : Int, 123 ≤ a → a ≤ 123 → m' a = m a) (f45 : m' 81 45 = m 81 45)  (h : ImS m) : ImS m' := by
  unfold ImS at *
  rw [h0 28 (by omega) (by omega), h0 29 (by omega) (by omega), h1 111 (by omega) (by omega), h2 123 (by omega) (by omega), f45]
  exact h
def ImT (m : PM) : Prop := (0 ≤ m 81 46 ∧ m 81 46 ≤ 5) ∧ m 27 2 = m 81 46 ∧ r9b 20 (m 115) ∧ (∀ t, 0 ≤ t → t < 5 → m (43 + 2 * t) 0 = m 112 t ∧ m (43 + 2 * t) 1 = m 113 t ∧ m (43 + 2 * t) 2 = m 114 t ∧ (∀ i, 0 ≤ i → i < 4 → m (44 + 2 * t) i = m 115 (4 * t + i)) ∧ (0 ≤ m 112 t ∧ m 112 t ≤ 6) ∧ (0 ≤ m 113 t ∧ m 113 t ≤ 9) ∧ (0 ≤ m 114 t ∧ m 114 t ≤ 9999) ∧ r9b 4 (m (44 + 2 * t)))
theorem ImT_fr {m m' : PM} (h0 : ∀ a : Int, 43 ≤ a → a ≤ 52 → m' a = m a) (h1 : ∀ a : Int, 112 ≤ a → a ≤ 115 → m' a = m a) (f46 : m' 81 46 = m 81 46) (e27_2 : m' 27 2 = m 27 2) (h : ImT m) : ImT m' := by
  unfold ImT at *
  rw [h1 112 (by omega) (by omega), h1 113 (by omega) (by omega), h1 114 (by omega) (by omega), h1 115 (by omega) (by omega), f46, e27_2]
  refine ⟨h.1, h.2.1, h.2.2.1, fun t h3 h4 => ?_⟩
  rw [h0 (43 + 2 * t) (by omega) (by omega), h0 (44 + 2 * t) (by omega) (by omega)]
  exact h.2.2.2 t h3 h4
def ImN (m : PM) : Prop := (0 ≤ m 81 47 ∧ m 81 47 ≤ 5) ∧ m 31 3 = m 81 47 ∧ (∀ i, 0 ≤ i → i < m 81 47 → m 116 i = 2 * m 32 i + m 33 i ∧ m 117 i = m 34 i ∧ (0 ≤ m 32 i ∧ m 32 i ≤ 11) ∧ (m 33 i = 0 ∨ m 33 i = 1))
theorem ImN_fr {m m' : PM} (h0 : ∀ a : Int, 31 ≤ a → a ≤ 34 → m' a = m a) (h1 : ∀ a : Int, 116 ≤ a → a ≤ 117 → m' a = m a) (f47 : m' 81 47 = m 81 47)  (h : ImN m) : ImN m' := by
  unfold ImN at *
  rw [h0 31 (by omega) (by omega), h0 32 (by omega) (by omega), h0 33 (by omega) (by omega), h0 34 (by omega) (by omega), h1 116 (by omega) (by omega), h1 117 (by omega) (by omega), f47]
  exact h
def ImB (m : PM) : Prop := (0 ≤ m 81 49 ∧ m 81 49 ≤ 8) ∧ m 39 3 = m 81 49 ∧ (∀ i, 0 ≤ i → i < m 81 49 → m 121 i = 2 * m 40 i + m 41 i ∧ m 122 i = m 42 i ∧ (0 ≤ m 40 i ∧ m 40 i ≤ 11) ∧ (m 41 i = 0 ∨ m 41 i = 1))
theorem ImB_fr {m m' : PM} (h0 : ∀ a : Int, 39 ≤ a → a ≤ 42 → m' a = m a) (h1 : ∀ a : Int, 121 ≤ a → a ≤ 122 → m' a = m a) (f49 : m' 81 49 = m 81 49)  (h : ImB m) : ImB m' := by
  unfold ImB at *
  rw [h0 39 (by omega) (by omega), h0 40 (by omega) (by omega), h0 41 (by omega) (by omega), h0 42 (by omega) (by omega), h1 121 (by omega) (by omega), h1 122 (by omega) (by omega), f49]
  exact h
def ImP (m : PM) : Prop := (0 ≤ m 81 48 ∧ m 81 48 ≤ 6) ∧ m 35 3 = m 81 48 ∧ (∀ i, 0 ≤ i → i < m 81 48 → m 118 i = m 36 i ∧ m 119 i = m 37 i ∧ m 120 i = (if m 36 i = 0 then m 38 i else 0) ∧ ((m 36 i = 0 ∧ (0 ≤ m 37 i ∧ m 37 i < m 81 46) ∧ (0 ≤ m 38 i ∧ m 38 i < m 81 5)) ∨ (m 36 i = 1 ∧ 0 ≤ m 37 i ∧ m 37 i ≤ 3) ∨ (m 36 i = 2 ∧ 1 ≤ m 37 i ∧ m 37 i ≤ 12)))
theorem ImP_fr {m m' : PM} (h0 : ∀ a : Int, 35 ≤ a → a ≤ 38 → m' a = m a) (h1 : ∀ a : Int, 118 ≤ a → a ≤ 120 → m' a = m a) (f48 : m' 81 48 = m 81 48) (f46 : m' 81 46 = m 81 46) (f5 : m' 81 5 = m 81 5)  (h : ImP m) : ImP m' := by
  unfold ImP at *
  rw [h0 35 (by omega) (by omega), h0 36 (by omega) (by omega), h0 37 (by omega) (by omega), h0 38 (by omega) (by omega), h1 118 (by omega) (by omega), h1 119 (by omega) (by omega), h1 120 (by omega) (by omega), f48, f46, f5]
  exact h
def HmR (m : PM) : Prop := m 0 2 = m 81 44 ∧ (m 81 44 = 0 ∨ m 81 44 = 1)
theorem HmR_fr {m m' : PM}  (f44 : m' 81 44 = m 81 44) (e0_2 : m' 0 2 = m 0 2) (h : HmR m) : HmR m' := by
  unfold HmR at *
  rw [f44, e0_2]
  exact h
def TxR (m : PM) : Prop := (0 ≤ m 81 6 ∧ m 81 6 ≤ 100) ∧ m 53 1 = m 81 6 ∧ m 54 = m 86 ∧ (∀ i, 0 ≤ i → i < m 81 6 → 0 ≤ m 86 i ∧ m 86 i ≤ 127)
theorem TxR_fr {m m' : PM} (h0 : ∀ a : Int, 54 ≤ a → a ≤ 54 → m' a = m a) (h1 : ∀ a : Int, 86 ≤ a → a ≤ 86 → m' a = m a) (f6 : m' 81 6 = m 81 6) (e53_1 : m' 53 1 = m 53 1) (h : TxR m) : TxR m' := by
  unfold TxR at *
  rw [h0 54 (by omega) (by omega), h1 86 (by omega) (by omega), f6, e53_1]
  exact h
def AcR (m : PM) : Prop := (0 ≤ m 81 63 ∧ m 81 63 ≤ 1000) ∧ m 66 1 = m 81 63 ∧ (∀ i, 0 ≤ i → i < m 81 63 → i < 20 → m 67 i = m 124 i)
theorem AcR_fr {m m' : PM} (h0 : ∀ a : Int, 67 ≤ a → a ≤ 67 → m' a = m a) (h1 : ∀ a : Int, 124 ≤ a → a ≤ 124 → m' a = m a) (f63 : m' 81 63 = m 81 63) (e66_1 : m' 66 1 = m 66 1) (h : AcR m) : AcR m' := by
  unfold AcR at *
  rw [h0 67 (by omega) (by omega), h1 124 (by omega) (by omega), f63, e66_1]
  exact h
def TpR (m : PM) : Prop := ∀ t, 0 ≤ t → t < 6 → m (69 + 2 * t) 0 = m 125 t ∧ m (69 + 2 * t) 1 = m 126 t ∧ (∀ i, 0 ≤ i → i < 60 → m (70 + 2 * t) i = m 127 (60 * t + i)) ∧ (-1 ≤ m 125 t ∧ m 125 t ≤ 4) ∧ (0 ≤ m 126 t ∧ m 126 t ≤ 60) ∧ (m 125 t = -1 → m 126 t = 0)
theorem TpR_fr {m m' : PM} (h0 : ∀ a : Int, 69 ≤ a → a ≤ 80 → m' a = m a) (h1 : ∀ a : Int, 125 ≤ a → a ≤ 127 → m' a = m a)   (h : TpR m) : TpR m' := by
  unfold TpR at *
  intro t h3 h4
  rw [h1 125 (by omega) (by omega), h1 126 (by omega) (by omega), h1 127 (by omega) (by omega), h0 (69 + 2 * t) (by omega) (by omega), h0 (70 + 2 * t) (by omega) (by omega)]
  exact h t h3 h4
def JBd (m : PM) : Prop := ∀ j, 0 ≤ j → j < m 81 5 → ∀ c, 10 * j ≤ c → c < 10 * j + m 87 j → 2 ≤ m 88 c → m 91 c ≤ 100 * (j + 1)
def JbR (m : PM) (dy : List (Nat × Nat)) : Prop := (0 ≤ m 81 5 ∧ m 81 5 ≤ 6) ∧ m 0 5 = m 81 5 ∧ dy.length = 3 * (m 81 5).toNat ∧ ((∀ q ∈ dy, q.1 ≤ 1 ∧ q.2 ≤ 1000) ∧ JBd m) ∧ (∀ j, 0 ≤ j → j < m 81 5 → ∃ CL, JC m dy (m 59 j) CL ∧ JR m j CL)
theorem JbR_fr {m m' : PM} {dy : List (Nat × Nat)} (h0 : ∀ a : Int, 129 ≤ a → m' a = m a) (h1 : ∀ a : Int, 87 ≤ a → a ≤ 92 → m' a = m a) (h2 : m' 59 = m 59) (f5 : m' 81 5 = m 81 5) (e0_5 : m' 0 5 = m 0 5) (h : JbR m dy) : JbR m' dy := by
  unfold JbR JBd at *
  rw [f5, e0_5, h2, h1 87 (by omega) (by omega), h1 88 (by omega) (by omega), h1 91 (by omega) (by omega)]
  refine ⟨h.1, h.2.1, h.2.2.1, h.2.2.2.1, fun j h3 h4 => ?_⟩
  obtain ⟨CL, a1, a2⟩ := h.2.2.2.2 j h3 h4
  refine ⟨CL, JC_fr h0 _ _ _ a1, ?_⟩
  rw [JR_fr (h1 87 (by omega) (by omega)) ⟨h1 88 (by omega) (by omega), h1 89 (by omega) (by omega), h1 90 (by omega) (by omega), h1 91 (by omega) (by omega), h1 92 (by omega) (by omega)⟩]
  exact a2
def CoR (m0 m : PM) : Prop := (∀ a : Int, a < 0 → m a = m0 a) ∧ m 94 = m0 94
theorem CoR_fr {m0 m m' : PM} (h0 : ∀ a : Int, a < 0 → m' a = m a) (h1 : m' 94 = m 94) (h : CoR m0 m) : CoR m0 m' := ⟨fun a ha => by rw [h0 a ha]; exact h.1 a ha, by rw [h1]; exact h.2⟩
def Inv (m0 m : PM) (dy : List (Nat × Nat)) : Prop := StR m ∧ ScR m ∧ TrR m ∧ SeR m ∧ PlR m ∧ BoR m ∧ (m 81 44 = 1 → ImS m ∧ ImT m ∧ ImN m ∧ ImP m ∧ ImB m) ∧ HmR m ∧ TxR m ∧ AcR m ∧ TpR m ∧ JbR m dy ∧ CoR m0 m
