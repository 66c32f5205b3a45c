/-- what of the class no call but sends, ticks and removals touches -/
def k_same (σ σ' : rMem) : Prop := σ' 1 = σ 1 ∧ σ' 2 = σ 2 ∧ (∀ q, 3 ≤ q → q < 45 → σ' q = σ q) ∧ (∀ m, m < 2 → σ' (46 + m) 0 = σ (46 + m) 0 ∧ σ' (46 + m) 1 = σ (46 + m) 1) ∧ σ' 48 = σ 48 ∧ ∀ a, a < 3 → σ' (54 + 4 * a) = σ (54 + 4 * a)
theorem RR_mk {J J' : Nat} {T : Int} {σ σ' τ τ' : rMem} (h : RR J T σ τ) (hk : k_same σ σ') (t1 : τ' 71 = τ 71) (t2 : τ' 72 = τ 72)
    (hm : ∀ m, m < 2 → r_mob σ' τ' m ∧ r_home σ' τ' m ∧ r_corr σ' τ' m ∧ r_rng J' σ' m)
    (hf : ∀ a, a < 3 → ∀ m, m < 2 → r_fa σ' τ' a m ∧ (0 ≤ (σ' (54 + 4 * a + 1) m).toInt ∧ (σ' (54 + 4 * a + 1) m).toInt ≤ (σ' 1 2).toInt + 60))
    (hg : ∀ m, m < 2 → (σ 68 m).toInt ≤ (σ' 68 m).toInt ∧ (σ (46 + m) 13).toInt ≤ (σ' (46 + m) 13).toInt) : RR J' T σ' τ' := by
  have hrow := fun (k : Nat) (hk : k < 41) => RR_rows h hk
  obtain ⟨e1, e2, e3, e4, e5, e6⟩ := hk
  obtain ⟨gw, gc, gk, gm, gf, gg⟩ := h
  refine ⟨?_, ?_, ?_, hm, hf, fun k hk2 => ?_⟩
  · unfold r_wire at gw ⊢
    rw [e1, e2, t1]
    exact gw
  · rw [e1]
    exact gc
  · unfold r_const at gk ⊢
    rw [t1, e5]
    exact ⟨fun m hm2 => by rw [(e4 m hm2).1, (e4 m hm2).2]; exact gk.1 m hm2, gk.2.1, fun a ha => by rw [e6 a ha]; exact gk.2.2.1 a ha, gk.2.2.2⟩
  · rw [e1] at hk2
    have hk3 : k < 41 := by have := gw.1; omega
    have q := gg k hk2
    have hr := hrow k hk3
    have f1 : mq σ' k = mq σ k := by unfold mq; rw [e2]
    have f2 : σ' (mq σ k) = σ (mq σ k) := e3 _ (by unfold mq; omega) (by unfold mq; omega)
    have f3 : mrow τ' k = mrow τ k := by funext f; show τ' 72 _ = τ 72 _; rw [t2]
    have hj := rx_j2 q.1.1
    have hgm := hg _ hj
    unfold r_msg at q ⊢
    rw [f1, f2, f3]
    refine ⟨?_, q.2⟩
    have q1 := q.1
    unfold m_ok at q1 ⊢
    obtain ⟨w1, w2, w3⟩ := q1
    refine ⟨w1, w2, ?_⟩
    rcases w3 with w | w | w | w | w | w
    · exact Or.inl w
    · exact Or.inr (Or.inl w)
    · exact Or.inr (Or.inr (Or.inl w))
    · exact Or.inr (Or.inr (Or.inr (Or.inl ⟨w.1, w.2.1, by omega⟩)))
    · exact Or.inr (Or.inr (Or.inr (Or.inr (Or.inl ⟨w.1, w.2.1, by omega⟩))))
    · exact Or.inr (Or.inr (Or.inr (Or.inr (Or.inr ⟨w.1, w.2.1, by omega⟩))))
theorem RR_move {J : Nat} {T : Int} {σ τ : rMem} {n : Nat} {x : Int32} (hn : n < 2) (h : RR J T σ τ) : RR J T (rx_wr σ (46 + n) 4 x) (rx_wr τ 74 n x) := by
  refine RR_mk h ⟨rx_wr_ne (by omega), rx_wr_ne (by omega), fun q h1 h2 => rx_wr_ne (by omega), fun m hm => ⟨rx_wr_sl (by omega), rx_wr_sl (by omega)⟩, rx_wr_ne (by omega), fun a ha => rx_wr_ne (by omega)⟩ (rx_wr_ne (by omega)) (rx_wr_ne (by omega)) (fun m hm => ?_) (fun a ha m hm => ?_) (fun m hm => ?_)
  · have q := h.2.2.2.1 m hm
    unfold r_mob r_home r_corr r_rng at q ⊢
    simp only [rx_wr_at]
    grind
  · have q := h.2.2.2.2.1 a ha m hm
    unfold r_fa at q ⊢
    simp only [rx_wr_at]
    grind
  · simp only [rx_wr_at]
    grind
