/-! updates of one party's registers -/
theorem RR_mob {J J' : Nat} {T : Int} {σ σ' τ τ' : rMem} {n : Nat} (hn : n < 2) (h : RR J T σ τ) (hJ : J ≤ J') (c1 : ∀ c, c ≠ 46 + n → σ' c = σ c) (c2 : σ' (46 + n) 0 = σ (46 + n) 0 ∧ σ' (46 + n) 1 = σ (46 + n) 1) (t1 : ∀ c, c < 74 ∨ 84 < c → τ' c = τ c) (t2 : ∀ c k, k ≠ n → τ' c k = τ c k) (hm : r_mob σ' τ' n) (hr : r_rng J' σ' n) (hg : (σ (46 + n) 13).toInt ≤ (σ' (46 + n) 13).toInt) : RR J' T σ' τ' := by
  refine RR_mk h ⟨c1 1 (by omega), c1 2 (by omega), fun q h1 h2 => c1 q (by omega), fun m hm2 => ?_, c1 48 (by omega), fun a ha => c1 _ (by omega)⟩ (t1 71 (by omega)) (t1 72 (by omega)) (fun m hm2 => ?_) (fun a ha m hm2 => ?_) (fun m hm2 => ?_)
  · by_cases hmn : m = n
    · subst hmn
      exact c2
    · rw [c1 (46 + m) (by omega)]
      exact ⟨rfl, rfl⟩
  · have q := h.2.2.2.1 m hm2
    refine ⟨?_, ?_, ?_, ?_⟩
    · by_cases hmn : m = n
      · subst hmn
        exact hm
      · have q1 := q.1
        unfold r_mob at q1 ⊢
        rw [c1 (46 + m) (by omega), t2 74 m hmn, t2 75 m hmn, t2 76 m hmn, t2 77 m hmn, t2 78 m hmn, t2 79 m hmn, t2 80 m hmn, t2 81 m hmn, t2 82 m hmn, t2 83 m hmn, t2 84 m hmn]
        exact q1
    · have q2 := q.2.1
      unfold r_home at q2 ⊢
      rw [c1 49 (by omega), c1 50 (by omega), c1 51 (by omega), c1 52 (by omega), c1 1 (by omega), t1 85 (by omega), t1 86 (by omega), t1 87 (by omega), t1 88 (by omega)]
      exact q2
    · have q2 := q.2.2.1
      unfold r_corr at q2 ⊢
      rw [c1 67 (by omega), c1 68 (by omega), c1 69 (by omega), c1 70 (by omega), t1 92 (by omega), t1 93 (by omega), t1 94 (by omega), t1 95 (by omega)]
      exact q2
    · by_cases hmn : m = n
      · subst hmn
        exact hr
      · have q1 := q.2.2.2
        unfold r_rng at q1 ⊢
        rw [c1 (46 + m) (by omega), c1 67 (by omega), c1 68 (by omega), c1 69 (by omega), c1 1 (by omega), c1 51 (by omega)]
        exact ⟨q1.1, q1.2.1, ⟨q1.2.2.1.1, by omega⟩, q1.2.2.2⟩
  · have q := h.2.2.2.2.1 a ha m hm2
    unfold r_fa at q ⊢
    rw [c1 (54 + 4 * a + 1) (by omega), c1 (54 + 4 * a + 2) (by omega), c1 (54 + 4 * a + 3) (by omega), c1 1 (by omega), t1 89 (by omega), t1 90 (by omega), t1 91 (by omega)]
    exact q
  · rw [c1 68 (by omega)]
    refine ⟨by omega, ?_⟩
    by_cases hmn : m = n
    · subst hmn
      exact hg
    · rw [c1 (46 + m) (by omega)]
      omega
theorem RR_cor {J : Nat} {T : Int} {σ σ' τ τ' : rMem} {n : Nat} (h : RR J T σ τ) (c1 : ∀ c, c < 67 ∨ 70 < c → σ' c = σ c) (c2 : ∀ c k, k ≠ n → σ' c k = σ c k) (t1 : ∀ c, c < 92 → τ' c = τ c) (t2 : ∀ c k, k ≠ n → τ' c k = τ c k) (hm : r_corr σ' τ' n) (hr : (0 ≤ (σ' 69 n).toInt ∧ (σ' 69 n).toInt ≤ (σ' 68 n).toInt ∧ (σ' 68 n).toInt ≤ (σ' 67 n).toInt ∧ (σ' 67 n).toInt ≤ 200)) (hg : (σ 68 n).toInt ≤ (σ' 68 n).toInt) : RR J T σ' τ' := by
  refine RR_mk h ⟨c1 1 (by omega), c1 2 (by omega), fun q h1 h2 => c1 q (by omega), fun m hm2 => by rw [c1 (46 + m) (by omega)]; exact ⟨rfl, rfl⟩, c1 48 (by omega), fun a ha => c1 _ (by omega)⟩ (t1 71 (by omega)) (t1 72 (by omega)) (fun m hm2 => ?_) (fun a ha m hm2 => ?_) (fun m hm2 => ?_)
  · have q := h.2.2.2.1 m hm2
    refine ⟨?_, ?_, ?_, ?_⟩
    · have q1 := q.1
      unfold r_mob at q1 ⊢
      rw [c1 (46 + m) (by omega), t1 74 (by omega), t1 75 (by omega), t1 76 (by omega), t1 77 (by omega), t1 78 (by omega), t1 79 (by omega), t1 80 (by omega), t1 81 (by omega), t1 82 (by omega), t1 83 (by omega), t1 84 (by omega)]
      exact q1
    · have q2 := q.2.1
      unfold r_home at q2 ⊢
      rw [c1 49 (by omega), c1 50 (by omega), c1 51 (by omega), c1 52 (by omega), c1 1 (by omega), t1 85 (by omega), t1 86 (by omega), t1 87 (by omega), t1 88 (by omega)]
      exact q2
    · by_cases hmn : m = n
      · subst hmn
        exact hm
      · have q2 := q.2.2.1
        unfold r_corr at q2 ⊢
        rw [c2 67 m hmn, c2 68 m hmn, c2 69 m hmn, c2 70 m hmn, t2 92 m hmn, t2 93 m hmn, t2 94 m hmn, t2 95 m hmn]
        exact q2
    · have q1 := q.2.2.2
      unfold r_rng at q1 ⊢
      rw [c1 (46 + m) (by omega), c1 1 (by omega), c1 51 (by omega)]
      by_cases hmn : m = n
      · subst hmn
        exact ⟨hr, ⟨q1.2.1.1, by omega⟩, q1.2.2⟩
      · rw [c2 67 m hmn, c2 68 m hmn, c2 69 m hmn]
        exact q1
  · have q := h.2.2.2.2.1 a ha m hm2
    unfold r_fa at q ⊢
    rw [c1 (54 + 4 * a + 1) (by omega), c1 (54 + 4 * a + 2) (by omega), c1 (54 + 4 * a + 3) (by omega), c1 1 (by omega), t1 89 (by omega), t1 90 (by omega), t1 91 (by omega)]
    exact q
  · rw [c1 (46 + m) (by omega)]
    refine ⟨?_, by omega⟩
    by_cases hmn : m = n
    · subst hmn
      exact hg
    · rw [c2 68 m hmn]
      omega
theorem RR_hom {J : Nat} {T : Int} {σ σ' τ τ' : rMem} {n : Nat} (h : RR J T σ τ) (c1 : ∀ c, c < 49 ∨ 52 < c → σ' c = σ c) (c2 : ∀ c k, k ≠ n → σ' c k = σ c k) (t1 : ∀ c, c < 85 ∨ 88 < c → τ' c = τ c) (t2 : ∀ c k, k ≠ n → τ' c k = τ c k) (hm : r_home σ' τ' n) (hr : 0 ≤ (σ' 51 n).toInt ∧ (σ' 51 n).toInt ≤ 3) : RR J T σ' τ' := by
  refine RR_mk h ⟨c1 1 (by omega), c1 2 (by omega), fun q h1 h2 => c1 q (by omega), fun m hm2 => by rw [c1 (46 + m) (by omega)]; exact ⟨rfl, rfl⟩, c1 48 (by omega), fun a ha => c1 _ (by omega)⟩ (t1 71 (by omega)) (t1 72 (by omega)) (fun m hm2 => ?_) (fun a ha m hm2 => ?_) (fun m hm2 => ?_)
  · have q := h.2.2.2.1 m hm2
    refine ⟨?_, ?_, ?_, ?_⟩
    · have q1 := q.1
      unfold r_mob at q1 ⊢
      rw [c1 (46 + m) (by omega), t1 74 (by omega), t1 75 (by omega), t1 76 (by omega), t1 77 (by omega), t1 78 (by omega), t1 79 (by omega), t1 80 (by omega), t1 81 (by omega), t1 82 (by omega), t1 83 (by omega), t1 84 (by omega)]
      exact q1
    · by_cases hmn : m = n
      · subst hmn
        exact hm
      · have q2 := q.2.1
        unfold r_home at q2 ⊢
        rw [c1 1 (by omega), c2 49 m hmn, c2 50 m hmn, c2 51 m hmn, c2 52 m hmn, t2 85 m hmn, t2 86 m hmn, t2 87 m hmn, t2 88 m hmn]
        exact q2
    · have q2 := q.2.2.1
      unfold r_corr at q2 ⊢
      rw [c1 67 (by omega), c1 68 (by omega), c1 69 (by omega), c1 70 (by omega), t1 92 (by omega), t1 93 (by omega), t1 94 (by omega), t1 95 (by omega)]
      exact q2
    · have q1 := q.2.2.2
      unfold r_rng at q1 ⊢
      rw [c1 (46 + m) (by omega), c1 1 (by omega), c1 67 (by omega), c1 68 (by omega), c1 69 (by omega)]
      by_cases hmn : m = n
      · subst hmn
        exact ⟨q1.1, q1.2.1, q1.2.2.1, q1.2.2.2.1, q1.2.2.2.2.1, hr⟩
      · rw [c2 51 m hmn]
        exact q1
  · have q := h.2.2.2.2.1 a ha m hm2
    unfold r_fa at q ⊢
    rw [c1 (54 + 4 * a + 1) (by omega), c1 (54 + 4 * a + 2) (by omega), c1 (54 + 4 * a + 3) (by omega), c1 1 (by omega), t1 89 (by omega), t1 90 (by omega), t1 91 (by omega)]
    exact q
  · rw [c1 (46 + m) (by omega), c1 68 (by omega)]
    exact ⟨by omega, by omega⟩
theorem RR_fas {J : Nat} {T : Int} {σ σ' τ τ' : rMem} {b n : Nat} (hb : b < 3) (hn : n < 2) (h : RR J T σ τ) (c1 : ∀ c, c < 54 + 4 * b + 1 ∨ 54 + 4 * b + 3 < c → σ' c = σ c) (c2 : ∀ c k, k ≠ n → σ' c k = σ c k) (t1 : ∀ c, c < 89 ∨ 91 < c → τ' c = τ c) (t2 : ∀ c k, k ≠ 2 * (b + 1) + n → τ' c k = τ c k) (hm : r_fa σ' τ' b n) (hr : 0 ≤ (σ' (54 + 4 * b + 1) n).toInt ∧ (σ' (54 + 4 * b + 1) n).toInt ≤ (σ' 1 2).toInt + 60) : RR J T σ' τ' := by
  refine RR_mk h ⟨c1 1 (by omega), c1 2 (by omega), fun q h1 h2 => c1 q (by omega), fun m hm2 => by rw [c1 (46 + m) (by omega)]; exact ⟨rfl, rfl⟩, c1 48 (by omega), fun a ha => c1 _ (by omega)⟩ (t1 71 (by omega)) (t1 72 (by omega)) (fun m hm2 => ?_) (fun a ha m hm2 => ?_) (fun m hm2 => ?_)
  · have q := h.2.2.2.1 m hm2
    refine ⟨?_, ?_, ?_, ?_⟩
    · have q1 := q.1
      unfold r_mob at q1 ⊢
      rw [c1 (46 + m) (by omega), t1 74 (by omega), t1 75 (by omega), t1 76 (by omega), t1 77 (by omega), t1 78 (by omega), t1 79 (by omega), t1 80 (by omega), t1 81 (by omega), t1 82 (by omega), t1 83 (by omega), t1 84 (by omega)]
      exact q1
    · have q2 := q.2.1
      unfold r_home at q2 ⊢
      rw [c1 49 (by omega), c1 50 (by omega), c1 51 (by omega), c1 52 (by omega), c1 1 (by omega), t1 85 (by omega), t1 86 (by omega), t1 87 (by omega), t1 88 (by omega)]
      exact q2
    · have q2 := q.2.2.1
      unfold r_corr at q2 ⊢
      rw [c1 67 (by omega), c1 68 (by omega), c1 69 (by omega), c1 70 (by omega), t1 92 (by omega), t1 93 (by omega), t1 94 (by omega), t1 95 (by omega)]
      exact q2
    · have q1 := q.2.2.2
      unfold r_rng at q1 ⊢
      rw [c1 (46 + m) (by omega), c1 1 (by omega), c1 67 (by omega), c1 68 (by omega), c1 69 (by omega), c1 51 (by omega)]
      exact q1
  · have q := h.2.2.2.2.1 a ha m hm2
    by_cases hab : a = b
    · subst hab
      by_cases hmn : m = n
      · subst hmn
        exact ⟨hm, hr⟩
      · unfold r_fa at q ⊢
        rw [c2 (54 + 4 * a + 1) m hmn, c2 (54 + 4 * a + 2) m hmn, c2 (54 + 4 * a + 3) m hmn, c1 1 (by omega), t2 89 (2 * (a + 1) + m) (by omega), t2 90 (2 * (a + 1) + m) (by omega), t2 91 (2 * (a + 1) + m) (by omega)]
        exact q
    · unfold r_fa at q ⊢
      rw [c1 (54 + 4 * a + 1) (by omega), c1 (54 + 4 * a + 2) (by omega), c1 (54 + 4 * a + 3) (by omega), c1 1 (by omega), t2 89 (2 * (a + 1) + m) (by omega), t2 90 (2 * (a + 1) + m) (by omega), t2 91 (2 * (a + 1) + m) (by omega)]
      exact q
  · rw [c1 (46 + m) (by omega), c1 68 (by omega)]
    exact ⟨by omega, by omega⟩
/-! a step of both sides, with what each leaves alone -/
def RS (J : Nat) (T : Int) (σ τ σ' τ' : rMem) : Prop := RR J T σ' τ' ∧ (∀ c, 71 ≤ c → σ' c = σ c) ∧ ∀ c, c < 71 ∨ c = 73 → τ' c = τ c
theorem RS_id {J : Nat} {T : Int} {σ τ : rMem} (h : RR J T σ τ) : RS J T σ τ σ τ := ⟨h, fun _ _ => rfl, fun _ _ => rfl⟩
theorem RS_tr {J J' : Nat} {T T' : Int} {σ τ σ' τ' σ'' τ'' : rMem} (h1 : RS J T σ τ σ' τ') (h2 : RS J' T' σ' τ' σ'' τ'') : RS J' T' σ τ σ'' τ'' :=
  ⟨h2.1, fun c hc => (h2.2.1 c hc).trans (h1.2.1 c hc), fun c hc => (h2.2.2 c hc).trans (h1.2.2 c hc)⟩
theorem RS_up {J J' : Nat} {T : Int} {σ τ σ' τ' : rMem} (hJ : J ≤ J') (h1 : RS J T σ τ σ' τ') : RS J' T σ τ σ' τ' := ⟨RR_up hJ (by omega) h1.1, h1.2⟩
theorem RS_send {J : Nat} {T : Int} {σ σ' τ τ' : rMem} {v w : Nat → Int32} (h : RR J T σ τ) (hC : sentC σ σ' v) (hM : sentM τ τ' w) (hv : m_ok σ v) (hvw : m_eq v w) : RS J T σ τ σ' τ' :=
  ⟨RR_send h hC hM hv hvw, fun c hc => hC.1 c (by omega) (by omega), fun c hc => hM.1 c (by omega) (by omega)⟩
theorem RS_to {J : Nat} {T : Int} {σ τ : rMem} (h : RR J T σ τ) {kd tg m nu nw : Int32} (hok : m_ok σ (vT kd tg (-1) m nu 0 0 0 0)) (ht : tg ≠ 5) : RS J T σ τ (sp_Wire_sendTo σ tg kd m nu).1 (sp_Mod_send τ kd tg m nw nu 0 0 0 0) :=
  RS_send h (sc_sendTo h.1) (sm_send (wire_many h.1)) hok ⟨rfl, rfl, rfl, rfl, rfl, rfl, rfl, rfl, fun z => absurd z ht⟩
theorem RS_in {J : Nat} {T : Int} {σ τ : rMem} (h : RR J T σ τ) {kd m nu nw : Int32} (hok : m_ok σ (vT kd 5 nw m nu 0 0 0 0)) : RS J T σ τ (sp_Wire_sendInNetwork σ nw kd m nu).1 (sp_Mod_send τ kd 5 m nw nu 0 0 0 0) :=
  RS_send h (sc_sendIn h.1) (sm_send (wire_many h.1)) hok ⟨rfl, rfl, rfl, rfl, rfl, rfl, rfl, rfl, fun _ => rfl⟩
theorem z60 : 0 ≤ (0 : Int32).toInt ∧ (0 : Int32).toInt ≤ 60 := by decide
/-! pump and say -/
theorem RS_pump1 {J : Nat} {T : Int} {σ τ : rMem} {m : Int32} (hm : rx_iM m) (h : RR J T σ τ) (h1 : (σ 68 m.toNatClampNeg).toInt < (σ 67 m.toNatClampNeg).toInt) (h2 : (σ 68 m.toNatClampNeg).toInt < (σ 69 m.toNatClampNeg).toInt + 3) : RS J T σ τ (bd_Corr_pump σ m) (st_Mod_pump τ m) ∧ bd_Corr_pump σ m 67 = σ 67 ∧ bd_Corr_pump σ m 69 = σ 69 ∧ (bd_Corr_pump σ m 68 m.toNatClampNeg).toInt = (σ 68 m.toNatClampNeg).toInt + 1 := by
  have hn := rx_j2 hm
  have e3 : (3 : Int32).toInt = 3 := rfl
  obtain ⟨q1, q2, q3, q4⟩ := h.2.2.2.1 _ hn
  have q3' := q3
  obtain ⟨k1, k2, k3, k4⟩ := q3
  obtain ⟨g1, g2, -⟩ := q4
  have ea : (σ 69 m.toNatClampNeg + 3).toInt = (σ 69 m.toNatClampNeg).toInt + 3 := by rw [rx_addI (by rw [e3]; omega) (by rw [e3]; omega), e3]
  have es : (σ 68 m.toNatClampNeg + 1).toInt = (σ 68 m.toNatClampNeg).toInt + 1 := by rw [rx_addI (by rw [rx_I1]; omega) (by rw [rx_I1]; omega), rx_I1]
  have eM : st_Mod_pump τ m = (let m1 := rx_wr τ 93 m.toNatClampNeg (τ 93 m.toNatClampNeg + 1); let m2 := sp_Mod_send m1 4 0 m 0 (m1 93 m.toNatClampNeg) 0 0 0 0; rx_wr m2 95 m.toNatClampNeg (m2 71 3)) := by
    unfold st_Mod_pump
    rw [if_neg (by rw [rx_leI, ← k1, ← k2]; omega), if_neg (by rw [rx_leI, ← k2, ← k3, ea]; omega)]
  have R1 : RR J T (rx_wr σ 68 m.toNatClampNeg (σ 68 m.toNatClampNeg + 1)) (rx_wr τ 93 m.toNatClampNeg (τ 93 m.toNatClampNeg + 1)) := by
    refine RR_cor (n := m.toNatClampNeg) h (fun c hc => rx_wr_ne (by omega)) (fun c k hk => rx_wr_sl hk) (fun c hc => rx_wr_ne (by omega)) (fun c k hk => rx_wr_sl hk) ?_ ?_ ?_
    · unfold r_corr
      rw [rx_wr_ne (a := 67) (by omega), rx_wr_eq, rx_wr_ne (a := 69) (by omega), rx_wr_ne (a := 70) (by omega), rx_wr_ne (a := 92) (by omega), rx_wr_eq, rx_wr_ne (a := 94) (by omega), rx_wr_ne (a := 95) (by omega), k2]
      exact ⟨k1, rfl, k3, k4⟩
    · rw [rx_wr_ne (a := 67) (by omega), rx_wr_eq, rx_wr_ne (a := 69) (by omega), es]
      omega
    · rw [rx_wr_eq, es]
      omega
  have S0 : RS J T σ τ (rx_wr σ 68 m.toNatClampNeg (σ 68 m.toNatClampNeg + 1)) (rx_wr τ 93 m.toNatClampNeg (τ 93 m.toNatClampNeg + 1)) := ⟨R1, fun c hc => rx_wr_ne (by omega), fun c hc => rx_wr_ne (by omega)⟩
  rw [eM]
  unfold bd_Corr_pump
  dsimp only
  rw [rx_wr_eq, rx_wr_eq, ← k2] at *
  generalize hs1 : rx_wr σ 68 m.toNatClampNeg (σ 68 m.toNatClampNeg + 1) = σ1 at *
  generalize ht1 : rx_wr τ 93 m.toNatClampNeg (σ 68 m.toNatClampNeg + 1) = τ1 at *
  have e68 : σ1 68 m.toNatClampNeg = σ 68 m.toNatClampNeg + 1 := by rw [← hs1, rx_wr_eq]
  have e67 : σ1 67 = σ 67 := by rw [← hs1]; exact rx_wr_ne (by omega)
  have e69 : σ1 69 = σ 69 := by rw [← hs1]; exact rx_wr_ne (by omega)
  have hC := sc_sendTo R1.1 (tg := 0) (kd := 4) (mo := m) (nu := σ 68 m.toNatClampNeg + 1)
  have S1 : RS J T σ1 τ1 (sp_Wire_sendTo σ1 0 4 m (σ 68 m.toNatClampNeg + 1)).1 (sp_Mod_send τ1 4 0 m 0 (σ 68 m.toNatClampNeg + 1) 0 0 0 0) := by
    refine RS_to R1 ⟨hm, z60, ?_⟩ (by decide)
    refine Or.inr (Or.inr (Or.inr (Or.inl ⟨rfl, Or.inl rfl, ?_⟩)))
    show (σ 68 m.toNatClampNeg + 1).toInt ≤ (σ1 68 m.toNatClampNeg).toInt
    rw [e68]
    omega
  have S2 := RS_tr S0 S1
  have f67 := hC.1 67 (by omega) (by omega)
  have f68 := hC.1 68 (by omega) (by omega)
  have f69 := hC.1 69 (by omega) (by omega)
  generalize (sp_Wire_sendTo σ1 0 4 m (σ 68 m.toNatClampNeg + 1)).1 = σ2 at *
  generalize sp_Mod_send τ1 4 0 m 0 (σ 68 m.toNatClampNeg + 1) 0 0 0 0 = τ2 at *
  have R2 := S2.1
  obtain ⟨-, -, p3, p4⟩ := R2.2.2.2.1 _ hn
  refine ⟨RS_tr S2 ⟨RR_cor (n := m.toNatClampNeg) R2 (fun c hc => rx_wr_ne (by omega)) (fun c k hk => rx_wr_sl hk) (fun c hc => rx_wr_ne (by omega)) (fun c k hk => rx_wr_sl hk) ?_ ?_ ?_, fun c hc => rx_wr_ne (by omega), fun c hc => rx_wr_ne (by omega)⟩, ?_, ?_, ?_⟩
  · obtain ⟨x1, x2, x3, x4⟩ := p3
    unfold r_corr
    rw [rx_wr_ne (a := 67) (by omega), rx_wr_ne (a := 68) (by omega), rx_wr_ne (a := 69) (by omega), rx_wr_eq, rx_wr_ne (a := 92) (by omega), rx_wr_ne (a := 93) (by omega), rx_wr_ne (a := 94) (by omega), rx_wr_eq]
    exact ⟨x1, x2, x3, R2.1.2.2.2.2⟩
  · rw [rx_wr_ne (a := 67) (by omega), rx_wr_ne (a := 68) (by omega), rx_wr_ne (a := 69) (by omega)]
    exact p4.1
  · rw [rx_wr_ne (a := 68) (by omega)]
    omega
  · rw [rx_wr_ne (by omega), f67, e67]
  · rw [rx_wr_ne (by omega), f69, e69]
  · rw [rx_wr_ne (by omega), f68, e68, es]
theorem RS_pump {J : Nat} {T : Int} {m : Int32} (hm : rx_iM m) : ∀ (k n : Nat) (σ τ : rMem), RR J T σ τ → ((σ 67 m.toNatClampNeg).toInt - (σ 68 m.toNatClampNeg).toInt).toNat ≤ n → ((σ 69 m.toNatClampNeg).toInt + 3 - (σ 68 m.toNatClampNeg).toInt).toNat ≤ k → RS J T σ τ (pm_Corr n σ m) (it_n (fun τ => st_Mod_pump τ m) k τ) ∧ pm_Corr n σ m 67 = σ 67 := by
  have e3 : (3 : Int32).toInt = 3 := rfl
  have hn := rx_j2 hm
  intro k
  have stop : ∀ (n k : Nat) (σ τ : rMem), RR J T σ τ → ¬ ((σ 68 m.toNatClampNeg).toInt < (σ 67 m.toNatClampNeg).toInt ∧ (σ 68 m.toNatClampNeg).toInt < (σ 69 m.toNatClampNeg).toInt + 3) → pm_Corr n σ m = σ ∧ it_n (fun τ => st_Mod_pump τ m) k τ = τ := by
    intro n k σ τ h hx
    obtain ⟨q1, q2, q3, q4⟩ := h.2.2.2.1 _ hn
    obtain ⟨k1, k2, k3, k4⟩ := q3
    obtain ⟨g1, g2, -⟩ := q4
    have ea : (σ 69 m.toNatClampNeg + 3).toInt = (σ 69 m.toNatClampNeg).toInt + 3 := by rw [rx_addI (by rw [e3]; omega) (by rw [e3]; omega), e3]
    have hst : st_Mod_pump τ m = τ := by
      unfold st_Mod_pump
      by_cases x1 : τ 92 m.toNatClampNeg ≤ τ 93 m.toNatClampNeg
      · rw [if_pos x1]
      · rw [if_neg x1, if_pos ?_]
        rw [rx_leI, ← k1, ← k2] at x1
        rw [rx_leI, ← k3, ← k2, ea]
        omega
    constructor
    · cases n with
      | zero => rfl
      | succ n =>
        rw [pm_Corr, if_pos ?_]
        rw [rx_leI, rx_leI, ea]
        omega
    · induction k with
      | zero => rfl
      | succ k ih => rw [it_n, hst]; exact ih
  induction k with
  | zero =>
    intro n σ τ h h1 h2
    obtain ⟨a1, a2⟩ := stop n 0 σ τ h (by omega)
    rw [a1, a2]
    exact ⟨RS_id h, rfl⟩
  | succ k ih =>
    intro n σ τ h h1 h2
    by_cases hx : (σ 68 m.toNatClampNeg).toInt < (σ 67 m.toNatClampNeg).toInt ∧ (σ 68 m.toNatClampNeg).toInt < (σ 69 m.toNatClampNeg).toInt + 3
    · obtain ⟨S, b1, b2, b3⟩ := RS_pump1 hm h hx.1 hx.2
      obtain ⟨q1, q2, q3, q4⟩ := h.2.2.2.1 _ hn
      obtain ⟨g1, g2, -⟩ := q4
      have ea : (σ 69 m.toNatClampNeg + 3).toInt = (σ 69 m.toNatClampNeg).toInt + 3 := by rw [rx_addI (by rw [e3]; omega) (by rw [e3]; omega), e3]
      cases n with
      | zero => omega
      | succ n =>
        have e1 : pm_Corr (n + 1) σ m = pm_Corr n (bd_Corr_pump σ m) m := by
          rw [pm_Corr, if_neg ?_]
          rw [rx_leI, rx_leI, ea]
          omega
        rw [e1, it_n]
        have := ih n _ _ S.1 (by rw [b1, b3]; omega) (by rw [b2, b3]; omega)
        exact ⟨RS_tr S this.1, this.2.trans b1⟩
    · obtain ⟨a1, a2⟩ := stop n (k + 1) σ τ h hx
      rw [a1, a2]
      exact ⟨RS_id h, rfl⟩
theorem RS_pumps {J : Nat} {T : Int} {m : Int32} (hm : rx_iM m) {σ τ : rMem} (h : RR J T σ τ) : RS J T σ τ (sp_Corr_pump σ m) (sp_Mod_pump τ m) ∧ sp_Corr_pump σ m 67 = σ 67 := by
  have hn := rx_j2 hm
  obtain ⟨-, -, -, q4⟩ := h.2.2.2.1 _ hn
  exact RS_pump hm 3 _ σ τ h (Nat.le_refl _) (by have := q4.1; omega)
theorem RS_sR {j : Nat} {σ σ' τ' : rMem} (hR : sR j σ) (hC : ∀ c, 71 ≤ c → σ' c = σ c) (h : RR j (20 * j) σ σ' → RS (j + 1) (20 * (j + 1)) σ σ' σ' τ') : sR (j + 1) τ' := by
  have h1 : RR j (20 * j) σ σ' := RR_congr (fun _ _ => rfl) hC hR
  have h2 := h h1
  have h3 : RR (j + 1) (20 * (j + 1)) τ' τ' := RR_congr (fun c hc => h2.2.2 c (Or.inl hc)) (fun _ _ => rfl) h2.1
  unfold sR
  simpa using h3
theorem ok_14 : ok_say sR := by
  intro j σ m h hj
  have e200 : (200 : Int32).toInt = 200 := rfl
  by_cases hm : rx_iM m
  · have hn := rx_j2 hm
    obtain ⟨k1, k2, k3, k4⟩ := (h.2.2.2.1 _ hn).2.2.1
    have q4 := (h.2.2.2.1 _ hn).2.2.2
    by_cases hs : σ 67 m.toNatClampNeg < 200
    · have a1 : sp_Net_say σ m = (sp_Corr_pump (rx_wr σ 67 m.toNatClampNeg (σ 67 m.toNatClampNeg + 1)) m, sp_Corr_pump (rx_wr σ 67 m.toNatClampNeg (σ 67 m.toNatClampNeg + 1)) m 67 m.toNatClampNeg) := by
        unfold sp_Net_say
        rw [if_neg (im_yes hm).1, if_pos hs]
      rw [rx_ltI, e200] at hs
      have ei : (σ 67 m.toNatClampNeg + 1).toInt = (σ 67 m.toNatClampNeg).toInt + 1 := by rw [rx_addI (by rw [rx_I1]; have := q4.1; omega) (by rw [rx_I1]; have := q4.1; omega), rx_I1]
      have step : ∀ τ, RR j (20 * j) σ τ → RS j (20 * j) σ τ (sp_Corr_pump (rx_wr σ 67 m.toNatClampNeg (σ 67 m.toNatClampNeg + 1)) m) (sp_Mod_pump (rx_wr τ 92 m.toNatClampNeg (τ 92 m.toNatClampNeg + 1)) m) ∧ sp_Corr_pump (rx_wr σ 67 m.toNatClampNeg (σ 67 m.toNatClampNeg + 1)) m 67 = rx_wr σ 67 m.toNatClampNeg (σ 67 m.toNatClampNeg + 1) 67 := by
        intro τ hq
        obtain ⟨x1, x2, x3, x4⟩ := (hq.2.2.2.1 _ hn).2.2.1
        have R1 : RR j (20 * j) (rx_wr σ 67 m.toNatClampNeg (σ 67 m.toNatClampNeg + 1)) (rx_wr τ 92 m.toNatClampNeg (τ 92 m.toNatClampNeg + 1)) := by
          refine RR_cor (n := m.toNatClampNeg) hq (fun c hc => rx_wr_ne (by omega)) (fun c k hk => rx_wr_sl hk) (fun c hc => rx_wr_ne (by omega)) (fun c k hk => rx_wr_sl hk) ?_ ?_ ?_
          · unfold r_corr
            rw [rx_wr_eq, rx_wr_ne (a := 68) (by omega), rx_wr_ne (a := 69) (by omega), rx_wr_ne (a := 70) (by omega), rx_wr_eq, rx_wr_ne (a := 93) (by omega), rx_wr_ne (a := 94) (by omega), rx_wr_ne (a := 95) (by omega), x1]
            exact ⟨rfl, x2, x3, x4⟩
          · rw [rx_wr_eq, rx_wr_ne (a := 68) (by omega), rx_wr_ne (a := 69) (by omega), ei]
            have := q4.1
            omega
          · rw [rx_wr_ne (a := 68) (by omega)]
            omega
        obtain ⟨S, e⟩ := RS_pumps hm R1
        exact ⟨RS_tr ⟨R1, fun c hc => rx_wr_ne (by omega), fun c hc => rx_wr_ne (by omega)⟩ S, e⟩
      have S0 := (step σ h).1
      rw [a1]
      generalize sp_Corr_pump (rx_wr σ 67 m.toNatClampNeg (σ 67 m.toNatClampNeg + 1)) m = σ' at *
      have hC := S0.2.1
      have a2 : sp_Mod_say σ' m = (sp_Mod_pump (rx_wr σ' 92 m.toNatClampNeg (σ' 92 m.toNatClampNeg + 1)) m, sp_Mod_pump (rx_wr σ' 92 m.toNatClampNeg (σ' 92 m.toNatClampNeg + 1)) m 92 m.toNatClampNeg) := by
        unfold sp_Mod_say
        rw [if_neg (im_yes hm).2, if_pos ?_]
        rw [hC 92 (by omega), ← k1, rx_ltI, e200]
        exact hs
      show _ = (sp_Mod_say σ' m).2 ∧ sR (j + 1) (sp_Mod_say σ' m).1
      rw [a2]
      have hq : RR j (20 * j) σ σ' := RR_congr (fun _ _ => rfl) hC h
      have S1 := (step σ' hq).1
      refine ⟨(S1.1.2.2.2.1 _ hn).2.2.1.1, RS_sR h hC (fun q => ?_)⟩
      exact ⟨RR_up (by omega) (by omega) S1.1, hC, S1.2.2⟩
    · have a1 : sp_Net_say σ m = (σ, -1) := by
        unfold sp_Net_say
        rw [if_neg (im_yes hm).1, if_neg hs]
      have a2 : sp_Mod_say σ m = (σ, -1) := by
        unfold sp_Mod_say
        rw [if_neg (im_yes hm).2, if_neg (by rw [← k1]; exact hs)]
      rw [a1]
      show _ = (sp_Mod_say σ m).2 ∧ sR (j + 1) (sp_Mod_say σ m).1
      rw [a2]
      exact ⟨rfl, sR_same h⟩
  · have a1 : sp_Net_say σ m = (σ, -1) := by
      unfold sp_Net_say
      rw [if_pos (im_no hm).1]
    have a2 : sp_Mod_say σ m = (σ, -1) := by
      unfold sp_Mod_say
      rw [if_pos (im_no hm).2]
    rw [a1]
    show _ = (sp_Mod_say σ m).2 ∧ sR (j + 1) (sp_Mod_say σ m).1
    rw [a2]
    exact ⟨rfl, sR_same h⟩
