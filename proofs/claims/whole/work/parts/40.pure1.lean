/-! THE RELATION between the class's cells (of σ) and the reference's (of τ). J bounds what grows by a call, T the clock. -/
/-- the cell of the message in row k -/
abbrev mq (σ : rMem) (k : Nat) : Nat := 2 + (σ 2 k).toNatClampNeg
def r_wire (σ τ : rMem) : Prop := (0 ≤ (σ 1 1).toInt ∧ (σ 1 1).toInt ≤ 40) ∧ (∀ k, k < 41 → 1 ≤ (σ 2 k).toInt ∧ (σ 2 k).toInt ≤ 41) ∧ (∀ k k', k < 41 → k' < 41 → σ 2 k = σ 2 k' → k = k') ∧ σ 1 1 = τ 71 4 ∧ σ 1 2 = τ 71 3
def r_const (σ τ : rMem) : Prop := (∀ m, m < 2 → σ (46 + m) 0 = nI m ∧ σ (46 + m) 1 = τ 71 0) ∧ σ 48 0 = τ 71 1 ∧ (∀ a, a < 3 → σ (54 + 4 * a) 0 = nI (a + 1) ∧ σ (54 + 4 * a) 1 = τ 71 2) ∧ (6 ≤ (τ 71 0).toInt ∧ (τ 71 0).toInt ≤ 60) ∧ (6 ≤ (τ 71 1).toInt ∧ (τ 71 1).toInt ≤ 60)
def r_mob (σ τ : rMem) (m : Nat) : Prop := σ (46 + m) 3 = τ 75 m ∧ σ (46 + m) 4 = τ 74 m ∧ σ (46 + m) 5 = τ 76 m ∧ σ (46 + m) 6 = τ 77 m ∧ σ (46 + m) 7 = τ 78 m ∧ σ (46 + m) 8 = τ 79 m ∧ σ (46 + m) 9 = τ 80 m ∧ σ (46 + m) 10 = τ 81 m ∧ σ (46 + m) 11 = τ 82 m ∧ σ (46 + m) 12 = τ 83 m ∧ σ (46 + m) 13 = τ 84 m
def r_home (σ τ : rMem) (m : Nat) : Prop := σ 49 m = τ 85 m ∧ σ 50 m = τ 86 m ∧ σ 51 m = τ 87 m ∧ (σ 52 m = τ 88 m ∨ ((σ 52 m).toInt ≤ (σ 1 2).toInt ∧ (τ 88 m).toInt ≤ (σ 1 2).toInt))
def r_corr (σ τ : rMem) (m : Nat) : Prop := σ 67 m = τ 92 m ∧ σ 68 m = τ 93 m ∧ σ 69 m = τ 94 m ∧ σ 70 m = τ 95 m
def r_fa (σ τ : rMem) (a m : Nat) : Prop := σ (54 + 4 * a + 1) m = τ 89 (2 * (a + 1) + m) ∧ σ (54 + 4 * a + 2) m = τ 90 (2 * (a + 1) + m) ∧ σ (54 + 4 * a + 3) m = τ 91 (2 * (a + 1) + m)
/-- what a mobile's numbers keep to -/
def r_rng (J : Nat) (σ : rMem) (m : Nat) : Prop := (0 ≤ (σ 69 m).toInt ∧ (σ 69 m).toInt ≤ (σ 68 m).toInt ∧ (σ 68 m).toInt ≤ (σ 67 m).toInt ∧ (σ 67 m).toInt ≤ 200) ∧ (0 ≤ (σ (46 + m) 13).toInt ∧ (σ (46 + m) 13).toInt ≤ (σ 68 m).toInt) ∧ (0 ≤ (σ (46 + m) 5).toInt ∧ (σ (46 + m) 5).toInt ≤ (σ 1 2).toInt + J) ∧ 0 ≤ (σ (46 + m) 10).toInt ∧ (0 ≤ (σ (46 + m) 11).toInt ∧ (σ (46 + m) 11).toInt ≤ 3) ∧ (0 ≤ (σ 51 m).toInt ∧ (σ 51 m).toInt ≤ 3)
/-- what a message keeps to: its kind, target, network, mobile, number, care-of, code, lifetime, seal as v 0 .. v 8 -/
def m_ok (σ : rMem) (v : Nat → Int32) : Prop := rx_iM (v 3) ∧ (0 ≤ (v 7).toInt ∧ (v 7).toInt ≤ 60) ∧
  ((v 0 = 1 ∧ v 1 = 5 ∧ 0 ≤ (v 4).toInt ∧ (v 4).toInt ≤ 3) ∨
   (v 0 = 2 ∧ (0 ≤ (v 1).toInt ∧ (v 1).toInt ≤ 3) ∧ (0 ≤ (v 5).toInt ∧ (v 5).toInt ≤ 3) ∧ v 6 = 0) ∨
   (v 0 = 3 ∧ ((1 ≤ (v 1).toInt ∧ (v 1).toInt ≤ 3) ∨ v 1 = 5) ∧ (0 ≤ (v 5).toInt ∧ (v 5).toInt ≤ 3)) ∨
   (v 0 = 4 ∧ (v 1 = 0 ∨ v 1 = 5) ∧ (v 4).toInt ≤ (σ 68 (v 3).toNatClampNeg).toInt) ∨
   (v 0 = 5 ∧ (0 ≤ (v 1).toInt ∧ (v 1).toInt ≤ 3) ∧ (v 4).toInt ≤ (σ 68 (v 3).toNatClampNeg).toInt) ∨
   (v 0 = 6 ∧ v 1 = 4 ∧ (v 4).toInt ≤ (σ (46 + (v 3).toNatClampNeg) 13).toInt))
/-- a message of the class and a row of the reference are alike -/
def m_eq (v w : Nat → Int32) : Prop := v 0 = w 0 ∧ v 1 = w 1 ∧ v 3 = w 2 ∧ v 4 = w 4 ∧ v 5 = w 5 ∧ v 6 = w 7 ∧ v 7 = w 6 ∧ v 8 = w 8 ∧ (v 1 = 5 → v 2 = w 3)
abbrev mrow (τ : rMem) (k : Nat) : Nat → Int32 := fun f => τ 72 (9 * k + f)
def r_msg (σ τ : rMem) (k : Nat) : Prop := m_ok σ (σ (mq σ k)) ∧ m_eq (σ (mq σ k)) (mrow τ k)
def RR (J : Nat) (T : Int) (σ τ : rMem) : Prop := r_wire σ τ ∧ (0 ≤ (σ 1 2).toInt ∧ (σ 1 2).toInt ≤ T) ∧ r_const σ τ ∧ (∀ m, m < 2 → r_mob σ τ m ∧ r_home σ τ m ∧ r_corr σ τ m ∧ r_rng J σ m) ∧ (∀ a, a < 3 → ∀ m, m < 2 → r_fa σ τ a m ∧ (0 ≤ (σ (54 + 4 * a + 1) m).toInt ∧ (σ (54 + 4 * a + 1) m).toInt ≤ (σ 1 2).toInt + 60)) ∧ ∀ k : Nat, (k : Int) < (σ 1 1).toInt → r_msg σ τ k
theorem RR_rows {J : Nat} {T : Int} {σ τ : rMem} (h : RR J T σ τ) {k : Nat} (hk : k < 41) : 1 ≤ (σ 2 k).toNatClampNeg ∧ (σ 2 k).toNatClampNeg ≤ 41 := by
  have h1 := h.1.2.1 k hk
  have h2 := rx_cn (x := σ 2 k) (by omega)
  omega
theorem RR_congr {J : Nat} {T : Int} {σ σ' τ τ' : rMem} (h1 : ∀ c, c < 71 → σ' c = σ c) (h2 : ∀ c, 71 ≤ c → τ' c = τ c) (h : RR J T σ τ) : RR J T σ' τ' := by
  have hrow := fun (k : Nat) (hk : k < 41) => RR_rows h hk
  obtain ⟨hw, hc, hk, hm, hf, hg⟩ := h
  refine ⟨?_, ?_, ?_, fun m hm2 => ?_, fun a ha m hm2 => ?_, fun k hk2 => ?_⟩
  · unfold r_wire at hw ⊢
    rw [h1 1 (by omega), h1 2 (by omega), h2 71 (by omega)]
    exact hw
  · rw [h1 1 (by omega)]
    exact hc
  · unfold r_const at hk ⊢
    rw [h2 71 (by omega), h1 48 (by omega)]
    exact ⟨fun m hm2 => by rw [h1 (46 + m) (by omega)]; exact hk.1 m hm2, hk.2.1, fun a ha => by rw [h1 (54 + 4 * a) (by omega)]; exact hk.2.2.1 a ha, hk.2.2.2⟩
  · have q := hm m hm2
    unfold r_mob r_home r_corr r_rng at q ⊢
    rw [h1 (46 + m) (by omega), h1 49 (by omega), h1 50 (by omega), h1 51 (by omega), h1 52 (by omega), h1 1 (by omega), h1 67 (by omega), h1 68 (by omega), h1 69 (by omega), h1 70 (by omega), h2 74 (by omega), h2 75 (by omega), h2 76 (by omega), h2 77 (by omega), h2 78 (by omega), h2 79 (by omega), h2 80 (by omega), h2 81 (by omega), h2 82 (by omega), h2 83 (by omega), h2 84 (by omega), h2 85 (by omega), h2 86 (by omega), h2 87 (by omega), h2 88 (by omega), h2 92 (by omega), h2 93 (by omega), h2 94 (by omega), h2 95 (by omega)]
    exact q
  · have q := hf a ha m hm2
    unfold r_fa at q ⊢
    rw [h1 (54 + 4 * a + 1) (by omega), h1 (54 + 4 * a + 2) (by omega), h1 (54 + 4 * a + 3) (by omega), h1 1 (by omega), h2 89 (by omega), h2 90 (by omega), h2 91 (by omega)]
    exact q
  · rw [h1 1 (by omega)] at hk2
    have hk3 : k < 41 := by have := hw.1; omega
    have q := hg k hk2
    have hr := hrow k hk3
    have e1 : mq σ' k = mq σ k := by unfold mq; rw [h1 2 (by omega)]
    have e2 : σ' (mq σ k) = σ (mq σ k) := h1 _ (by unfold mq; omega)
    have e3 : mrow τ' k = mrow τ k := by funext f; show τ' 72 _ = τ 72 _; rw [h2 72 (by omega)]
    have hj := rx_j2 q.1.1
    unfold r_msg at q ⊢
    rw [e1, e2, e3]
    refine ⟨?_, q.2⟩
    have q1 := q.1
    unfold m_ok at q1 ⊢
    rw [h1 68 (by omega), h1 (46 + (σ (mq σ k) 3).toNatClampNeg) (by omega)]
    exact q1
def sR (j : Nat) (σ : rMem) : Prop := RR j (20 * j) σ σ
theorem RR_up {J J' : Nat} {T T' : Int} {σ τ : rMem} (hJ : J ≤ J') (hT : T ≤ T') (h : RR J T σ τ) : RR J' T' σ τ := by
  obtain ⟨hw, hc, hk, hm, hf, hg⟩ := h
  refine ⟨hw, ⟨hc.1, by omega⟩, hk, fun m hm2 => ?_, hf, hg⟩
  obtain ⟨q1, q2, q3, q4, q5, q6, q7⟩ := hm m hm2
  exact ⟨q1, q2, q3, q4, q5, ⟨q6.1, by omega⟩, q7⟩
/-- how a pair of calls is put together: the class's first, then the reference's -/
theorem sR_pair {j : Nat} {σ : rMem} {fC fM : rMem → rMem} (hC : ∀ c, 71 ≤ c → fC σ c = σ c) (hM : ∀ c, c < 71 → fM (fC σ) c = fC σ c) (h : RR j (20 * j) σ (fC σ) → RR (j + 1) (20 * (j + 1)) (fC σ) (fM (fC σ))) (hR : sR j σ) : sR (j + 1) (fM (fC σ)) := by
  have h1 : RR j (20 * j) σ (fC σ) := RR_congr (fun _ _ => rfl) hC hR
  have h2 := h h1
  have h3 : RR (j + 1) (20 * (j + 1)) (fM (fC σ)) (fM (fC σ)) := RR_congr hM (fun _ _ => rfl) h2
  unfold sR
  simpa using h3
theorem sR_same {j : Nat} {σ : rMem} (h : sR j σ) : sR (j + 1) σ := by
  unfold sR at h ⊢
  exact RR_up (by omega) (by omega) h
