theorem mv_C {σ : rMem} {m x : Int32} (hm : rx_iM m) (hx : 0 ≤ x.toInt ∧ x.toInt ≤ 4) : sp_Net_move σ m x = (rx_wr σ (46 + m.toNatClampNeg) 4 x, 1) := by
  have e4 : (4 : Int32).toInt = 4 := rfl
  unfold sp_Net_move
  rw [if_neg (im_yes hm).1, if_neg (in_yes (by rw [rx_I0, e4]; exact hx))]
theorem mv_M {σ : rMem} {m x : Int32} (hm : rx_iM m) (hx : 0 ≤ x.toInt ∧ x.toInt ≤ 4) : sp_Mod_move σ m x = (rx_wr σ 74 m.toNatClampNeg x, 1) := by
  have e4 : (4 : Int32).toInt = 4 := rfl
  have n1 : ¬ x < 0 := by rw [rx_ltI, rx_I0]; omega
  have n2 : x ≤ 4 := by rw [rx_leI, e4]; omega
  unfold sp_Mod_move
  rw [if_neg (im_yes hm).2, if_neg n1, if_pos n2]
theorem ok_9 : ok_move sR := by
  intro j σ m x h hj
  have e4 : (4 : Int32).toInt = 4 := rfl
  by_cases hm : rx_iM m
  · by_cases hx : 0 ≤ x.toInt ∧ x.toInt ≤ 4
    · rw [mv_C hm hx, mv_M hm hx]
      have hn := rx_j2 hm
      refine ⟨rfl, sR_pair (fC := fun σ => rx_wr σ (46 + m.toNatClampNeg) 4 x) (fM := fun τ => rx_wr τ 74 m.toNatClampNeg x) (fun c hc => rx_wr_ne (by omega)) (fun c hc => rx_wr_ne (by omega)) (fun q => RR_up (by omega) (by omega) (RR_move hn q)) h⟩
    · have a1 : sp_Net_move σ m x = (σ, 0) := by
        unfold sp_Net_move
        rw [if_neg (im_yes hm).1, if_pos (in_no (by rw [rx_I0, e4]; exact hx))]
      have a2 : sp_Mod_move σ m x = (σ, 0) := by
        unfold sp_Mod_move
        rw [if_neg (im_yes hm).2]
        by_cases h1 : x < 0
        · rw [if_pos h1]
        · have h2 : ¬ x ≤ 4 := by
            rw [rx_ltI, rx_I0] at h1
            rw [rx_leI, e4]
            omega
          rw [if_neg h1, if_neg h2]
      rw [a1, a2]
      exact ⟨rfl, sR_same h⟩
  · have a1 : sp_Net_move σ m x = (σ, 0) := by
      unfold sp_Net_move
      rw [if_pos (im_no hm).1]
    have a2 : sp_Mod_move σ m x = (σ, 0) := by
      unfold sp_Mod_move
      rw [if_pos (im_no hm).2]
    rw [a1, a2]
    exact ⟨rfl, sR_same h⟩
theorem RR_key1 {J : Nat} {T : Int} {σ τ τ' : rMem} {n : Nat} {x : Int32} (hn : n < 2) (ht : ∀ c k, τ' c k = if c = 75 ∧ k = n then x else τ c k) (h : RR J T σ τ) : RR J T (rx_wr σ (46 + n) 3 x) τ' := by
  refine RR_mk h ⟨rx_wr_ne (by omega), rx_wr_ne (by omega), fun q h1 h2 => rx_wr_ne (by omega), fun m hm => ⟨rx_wr_sl (by omega), rx_wr_sl (by omega)⟩, rx_wr_ne (by omega), fun a ha => rx_wr_ne (by omega)⟩ (funext fun k => by rw [ht]; simp) (funext fun k => by rw [ht]; simp) (fun m hm => ?_) (fun a ha m hm => ?_) (fun m hm => ?_)
  · have q := h.2.2.2.1 m hm
    unfold r_mob r_home r_corr r_rng at q ⊢
    simp only [rx_wr_at, ht]
    grind
  · have q := h.2.2.2.2.1 a ha m hm
    unfold r_fa at q ⊢
    simp only [rx_wr_at, ht]
    grind
  · simp only [rx_wr_at]
    grind
theorem RR_key0 {J : Nat} {T : Int} {σ τ τ' : rMem} {n : Nat} {x : Int32} (hn : n < 2) (ht : ∀ c k, τ' c k = if c = 85 ∧ k = n then x else τ c k) (h : RR J T σ τ) : RR J T (rx_wr σ 49 n x) τ' := by
  refine RR_mk h ⟨rx_wr_ne (by omega), rx_wr_ne (by omega), fun q h1 h2 => rx_wr_ne (by omega), fun m hm => ⟨by rw [rx_wr_ne (by omega)], by rw [rx_wr_ne (by omega)]⟩, rx_wr_ne (by omega), fun a ha => rx_wr_ne (by omega)⟩ (funext fun k => by rw [ht]; simp) (funext fun k => by rw [ht]; simp) (fun m hm => ?_) (fun a ha m hm => ?_) (fun m hm => ?_)
  · have q := h.2.2.2.1 m hm
    unfold r_mob r_home r_corr r_rng at q ⊢
    simp (disch := omega) only [rx_wr_ne, ht]
    try simp only [rx_wr_at]
    grind (splits := 40)
  · have q := h.2.2.2.2.1 a ha m hm
    unfold r_fa at q ⊢
    simp (disch := omega) only [rx_wr_ne, ht]
    try simp only [rx_wr_at]
    grind (splits := 40)
  · simp (disch := omega) only [rx_wr_ne]
    omega
theorem ok_10 : ok_key sR := by
  intro j σ sd m x h hj
  by_cases hm : rx_iM m
  · have hn := rx_j2 hm
    by_cases h1 : sd = 1
    · subst h1
      have a1 : ∀ σ, sp_Net_key σ 1 m x = (rx_wr σ (46 + m.toNatClampNeg) 3 x, 1) := by
        intro σ
        unfold sp_Net_key
        rw [if_neg (im_yes hm).1, if_neg (by decide), if_pos rfl]
      have a2 : ∀ σ, sp_Mod_key σ 1 m x = (rx_wr (rx_wr σ 75 m.toNatClampNeg x) 85 m.toNatClampNeg (rx_wr σ 75 m.toNatClampNeg x 85 m.toNatClampNeg), 1) := by
        intro σ
        unfold sp_Mod_key
        simp only [if_neg (show ¬ (1 : Int32) = 0 by decide), if_neg (im_yes hm).2, if_true]
      rw [a1, a2]
      refine ⟨rfl, sR_pair (fC := fun σ => rx_wr σ (46 + m.toNatClampNeg) 3 x) (fM := fun τ => rx_wr (rx_wr τ 75 m.toNatClampNeg x) 85 m.toNatClampNeg (rx_wr τ 75 m.toNatClampNeg x 85 m.toNatClampNeg)) (fun c hc => rx_wr_ne (by omega)) (fun c hc => (rx_wr_ne (by omega)).trans (rx_wr_ne (by omega))) (fun q => RR_up (by omega) (by omega) (RR_key1 hn (fun c k => ?_) q)) h⟩
      simp only [rx_wr_at]
      grind
    · by_cases h0 : sd = 0
      · subst h0
        have a1 : ∀ σ, sp_Net_key σ 0 m x = (rx_wr σ 49 m.toNatClampNeg x, 1) := by
          intro σ
          unfold sp_Net_key
          rw [if_neg (im_yes hm).1, if_neg (by decide), if_neg h1]
        have a2 : ∀ σ, sp_Mod_key σ 0 m x = (rx_wr (rx_wr σ 75 m.toNatClampNeg (σ 75 m.toNatClampNeg)) 85 m.toNatClampNeg x, 1) := by
          intro σ
          unfold sp_Mod_key
          simp only [if_neg h1, if_neg (im_yes hm).2, if_true]
        rw [a1, a2]
        refine ⟨rfl, sR_pair (fC := fun σ => rx_wr σ 49 m.toNatClampNeg x) (fM := fun τ => rx_wr (rx_wr τ 75 m.toNatClampNeg (τ 75 m.toNatClampNeg)) 85 m.toNatClampNeg x) (fun c hc => rx_wr_ne (by omega)) (fun c hc => (rx_wr_ne (by omega)).trans (rx_wr_ne (by omega))) (fun q => RR_up (by omega) (by omega) (RR_key0 hn (fun c k => ?_) q)) h⟩
        simp only [rx_wr_at]
        grind
      · have a1 : sp_Net_key σ sd m x = (σ, 0) := by
          unfold sp_Net_key
          rw [if_neg (im_yes hm).1, if_pos (in_no ?_)]
          rw [rx_I0, rx_I1]
          rw [rx_eqI] at h0 h1
          rw [rx_I0] at h0
          rw [rx_I1] at h1
          omega
        have a2 : sp_Mod_key σ sd m x = (σ, 0) := by
          unfold sp_Mod_key
          rw [if_neg h0, if_neg h1]
        rw [a1, a2]
        exact ⟨rfl, sR_same h⟩
  · have a1 : sp_Net_key σ sd m x = (σ, 0) := by
      unfold sp_Net_key
      rw [if_pos (im_no hm).1]
    have a2 : sp_Mod_key σ sd m x = (σ, 0) := by
      unfold sp_Mod_key
      by_cases h0 : sd = 0
      · rw [if_pos h0, if_pos (im_no hm).2]
      · rw [if_neg h0]
        by_cases h1 : sd = 1
        · rw [if_pos h1, if_pos (im_no hm).2]
        · rw [if_neg h1]
    rw [a1, a2]
    exact ⟨rfl, sR_same h⟩
/-! sending -/
def sentC (σ σ' : rMem) (v : Nat → Int32) : Prop := (∀ c, c ≠ 1 → (c < 3 ∨ 44 ≤ c) → σ' c = σ c) ∧ (∀ k, k ≠ 1 → σ' 1 k = σ 1 k) ∧ ((σ' 1 1).toInt = if (σ 1 1).toInt < 40 then (σ 1 1).toInt + 1 else (σ 1 1).toInt) ∧ (∀ k : Nat, (k : Int) < (σ 1 1).toInt → σ' (mq σ k) = σ (mq σ k)) ∧ ((σ 1 1).toInt < 40 → ∀ f, f < 9 → σ' (mq σ (σ 1 1).toNatClampNeg) f = v f)
def sentM (τ τ' : rMem) (w : Nat → Int32) : Prop := (∀ c, c ≠ 71 → c ≠ 72 → τ' c = τ c) ∧ (∀ k, k ≠ 4 → τ' 71 k = τ 71 k) ∧ ((τ' 71 4).toInt = if (τ 71 4).toInt < 40 then (τ 71 4).toInt + 1 else (τ 71 4).toInt) ∧ (∀ t : Nat, (t : Int) < 9 * (τ 71 4).toInt → τ' 72 t = τ 72 t) ∧ ((τ 71 4).toInt < 40 → ∀ f, f < 9 → τ' 72 (9 * (τ 71 4).toNatClampNeg + f) = w f)
theorem m_ok_ext {σ : rMem} {u v : Nat → Int32} (x : ∀ f, f < 9 → u f = v f) (h : m_ok σ v) : m_ok σ u := by
  unfold m_ok at h ⊢
  rw [x 0 (by omega), x 1 (by omega), x 3 (by omega), x 4 (by omega), x 5 (by omega), x 6 (by omega), x 7 (by omega)]
  exact h
theorem m_eq_ext {u v u' v' : Nat → Int32} (x : ∀ f, f < 9 → u f = v f) (x' : ∀ f, f < 9 → u' f = v' f) (h : m_eq v v') : m_eq u u' := by
  unfold m_eq at h ⊢
  rw [x 0 (by omega), x 1 (by omega), x 2 (by omega), x 3 (by omega), x 4 (by omega), x 5 (by omega), x 6 (by omega), x 7 (by omega), x 8 (by omega), x' 0 (by omega), x' 1 (by omega), x' 2 (by omega), x' 3 (by omega), x' 4 (by omega), x' 5 (by omega), x' 6 (by omega), x' 7 (by omega), x' 8 (by omega)]
  exact h
theorem RR_send {J : Nat} {T : Int} {σ σ' τ τ' : rMem} {v w : Nat → Int32} (h : RR J T σ τ) (hC : sentC σ σ' v) (hM : sentM τ τ' w) (hv : m_ok σ v) (hvw : m_eq v w) : RR J T σ' τ' := by
  have hrow := fun (k : Nat) (hk : k < 41) => RR_rows h hk
  obtain ⟨gw, gc, gk, gm, gf, gg⟩ := h
  obtain ⟨c1, c2, c3, c4, c5⟩ := hC
  obtain ⟨m1, m2, m3, m4, m5⟩ := hM
  obtain ⟨w1, w2, w3, w4, w5⟩ := gw
  have e12 : σ' 1 2 = σ 1 2 := c2 2 (by omega)
  have e2 : σ' 2 = σ 2 := c1 2 (by omega) (by omega)
  have s1 : (σ' 1 1).toInt = (τ' 71 4).toInt := by rw [c3, m3, w4]
  have hj : ∀ x, rx_iM x → x.toNatClampNeg < 2 := fun x hx => rx_j2 hx
  have ok' : ∀ u, m_ok σ u → m_ok σ' u := by
    intro u hu
    have hu1 := rx_j2 hu.1
    unfold m_ok at hu ⊢
    rw [c1 68 (by omega) (by omega), c1 (46 + (u 3).toNatClampNeg) (by omega) (by omega)]
    exact hu
  refine ⟨⟨?_, by rw [e2]; exact w2, by rw [e2]; exact w3, rx_eqI.mpr s1, ?_⟩, by rw [e12]; exact gc, ?_, fun m hm => ?_, fun a ha m hm => ?_, fun k hk => ?_⟩
  · rw [c3]
    split <;> omega
  · rw [e12, m2 3 (by omega)]
    exact w5
  · unfold r_const at gk ⊢
    rw [m2 0 (by omega), m2 1 (by omega), m2 2 (by omega), c1 48 (by omega) (by omega)]
    exact ⟨fun m hm2 => by rw [c1 (46 + m) (by omega) (by omega)]; exact gk.1 m hm2, gk.2.1, fun a ha => by rw [c1 (54 + 4 * a) (by omega) (by omega)]; exact gk.2.2.1 a ha, gk.2.2.2⟩
  · have q := gm m hm
    unfold r_mob r_home r_corr r_rng at q ⊢
    rw [e12, c1 (46 + m) (by omega) (by omega), c1 49 (by omega) (by omega), c1 50 (by omega) (by omega), c1 51 (by omega) (by omega), c1 52 (by omega) (by omega), c1 67 (by omega) (by omega), c1 68 (by omega) (by omega), c1 69 (by omega) (by omega), c1 70 (by omega) (by omega), m1 74 (by omega) (by omega), m1 75 (by omega) (by omega), m1 76 (by omega) (by omega), m1 77 (by omega) (by omega), m1 78 (by omega) (by omega), m1 79 (by omega) (by omega), m1 80 (by omega) (by omega), m1 81 (by omega) (by omega), m1 82 (by omega) (by omega), m1 83 (by omega) (by omega), m1 84 (by omega) (by omega), m1 85 (by omega) (by omega), m1 86 (by omega) (by omega), m1 87 (by omega) (by omega), m1 88 (by omega) (by omega), m1 92 (by omega) (by omega), m1 93 (by omega) (by omega), m1 94 (by omega) (by omega), m1 95 (by omega) (by omega)]
    exact q
  · have q := gf a ha m hm
    unfold r_fa at q ⊢
    rw [e12, c1 (54 + 4 * a + 1) (by omega) (by omega), c1 (54 + 4 * a + 2) (by omega) (by omega), c1 (54 + 4 * a + 3) (by omega) (by omega), m1 89 (by omega) (by omega), m1 90 (by omega) (by omega), m1 91 (by omega) (by omega)]
    exact q
  · have f1 : mq σ' k = mq σ k := by unfold mq; rw [e2]
    by_cases hold : (k : Int) < (σ 1 1).toInt
    · have q := gg k hold
      have f2 := c4 k hold
      unfold r_msg at q ⊢
      rw [f1, f2]
      refine ⟨ok' _ q.1, ?_⟩
      have q2 := q.2
      unfold m_eq mrow at q2 ⊢
      rw [w4] at hold
      rw [m4 (9 * k + 0) (by omega), m4 (9 * k + 1) (by omega), m4 (9 * k + 2) (by omega), m4 (9 * k + 3) (by omega), m4 (9 * k + 4) (by omega), m4 (9 * k + 5) (by omega), m4 (9 * k + 6) (by omega), m4 (9 * k + 7) (by omega), m4 (9 * k + 8) (by omega)]
      exact q2
    · have hlt : (σ 1 1).toInt < 40 := by
        rw [c3] at hk
        split at hk <;> omega
      have hcn := rx_cn (x := σ 1 1) (by omega)
      have hke : k = (σ 1 1).toNatClampNeg := by
        rw [c3, if_pos hlt] at hk
        omega
      have d1 := c5 hlt
      rw [w4] at hlt
      have d2 := m5 hlt
      have hke2 : k = (τ 71 4).toNatClampNeg := by rw [← w4]; exact hke
      have x1 : ∀ f, f < 9 → σ' (mq σ k) f = v f := by rw [hke]; exact d1
      have x2 : ∀ f, f < 9 → mrow τ' k f = w f := by intro f hf; show τ' 72 (9 * k + f) = w f; rw [hke2]; exact d2 f hf
      unfold r_msg
      rw [f1]
      exact ⟨m_ok_ext x1 (ok' _ hv), m_eq_ext x1 x2 hvw⟩
