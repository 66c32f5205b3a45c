theorem rx_wr_rd {σ : rMem} {i k a f : Nat} {v : Int32} (h : ¬ (a = i ∧ f = k)) : rx_wr σ i k v a f = σ a f := by
  rw [rx_wr_at, if_neg h]
theorem wire_many {σ τ : rMem} (hw : r_wire σ τ) : 0 ≤ (τ 71 4).toInt ∧ (τ 71 4).toInt ≤ 40 := by
  rw [← hw.2.2.2.1]
  exact hw.1
/-! inject -/
def in_good (σ : rMem) (a m co lt id : Int32) : Prop := (0 ≤ a.toInt ∧ a.toInt ≤ 3) ∧ rx_iM m ∧ (0 ≤ co.toInt ∧ co.toInt ≤ 3) ∧ (0 ≤ lt.toInt ∧ lt.toInt ≤ 60) ∧ (1 ≤ id.toInt ∧ id.toInt ≤ 9999) ∧ (co = 0 ↔ lt = 0) ∧ (σ 1 1).toInt < 40
def in_C (σ : rMem) (a m co lt id sl : Int32) : rMem := rx_wr (rx_wr (rx_wr (sp_Wire_sendTo σ a 2 m id).1 (sp_Wire_sendTo σ a 2 m id).2 5 co) (sp_Wire_sendTo σ a 2 m id).2 7 lt) (sp_Wire_sendTo σ a 2 m id).2 8 sl
theorem full_iff {σ : rMem} : rv_Wire_isFull σ = 0 ↔ (σ 1 1).toInt < 40 := by
  unfold rv_Wire_isFull
  by_cases h : σ 1 1 < 40
  · rw [if_pos h]
    rw [rx_ltI, rx_I40] at h
    exact ⟨fun _ => h, fun _ => rfl⟩
  · rw [if_neg h]
    rw [rx_ltI, rx_I40] at h
    exact ⟨fun q => absurd q (by decide), fun q => absurd q h⟩
theorem ag_iff {a : Int32} : ¬ rv_Net_isAgent a = 0 ↔ 0 ≤ a.toInt ∧ a.toInt ≤ 3 := by
  have e3 : (3 : Int32).toInt = 3 := rfl
  exact ⟨rm_Agent, fun h => in_yes (by rw [rx_I0, e3]; exact h)⟩
theorem wi_iff {x lo hi : Int32} : ¬ rv_Net_isWithin x lo hi = 0 ↔ lo.toInt ≤ x.toInt ∧ x.toInt ≤ hi.toInt :=
  ⟨fun h => Classical.byContradiction fun q => h (in_no q), in_yes⟩
theorem in_Cs {σ : rMem} {a m co lt id sl : Int32} : (in_good σ a m co lt id → sp_Net_inject σ a m co lt id sl = (in_C σ a m co lt id sl, 1)) ∧ (¬ in_good σ a m co lt id → sp_Net_inject σ a m co lt id sl = (σ, 0)) := by
  have e60 : (60 : Int32).toInt = 60 := rfl
  have e99 : (9999 : Int32).toInt = 9999 := rfl
  unfold sp_Net_inject in_good
  by_cases h1 : rv_Net_isAgent a = 0
  · rw [if_pos h1]
    exact ⟨fun q => absurd h1 (ag_iff.mpr q.1), fun _ => rfl⟩
  · rw [if_neg h1]
    by_cases h2 : rv_Net_isMobile m = 0
    · rw [if_pos h2]
      exact ⟨fun q => absurd h2 (im_yes q.2.1).1, fun _ => rfl⟩
    · rw [if_neg h2]
      by_cases h3 : rv_Net_isAgent co = 0
      · rw [if_pos h3]
        exact ⟨fun q => absurd h3 (ag_iff.mpr q.2.2.1), fun _ => rfl⟩
      · rw [if_neg h3]
        by_cases h4 : rv_Net_isWithin lt 0 60 = 0
        · rw [if_pos h4]
          exact ⟨fun q => absurd h4 (wi_iff.mpr (by rw [rx_I0, e60]; exact q.2.2.2.1)), fun _ => rfl⟩
        · rw [if_neg h4]
          by_cases h5 : rv_Net_isWithin id 1 9999 = 0
          · rw [if_pos h5]
            exact ⟨fun q => absurd h5 (wi_iff.mpr (by rw [rx_I1, e99]; exact q.2.2.2.2.1)), fun _ => rfl⟩
          · rw [if_neg h5]
            have g4 := wi_iff.mp h4
            have g5 := wi_iff.mp h5
            rw [rx_I0, e60] at g4
            rw [rx_I1, e99] at g5
            have base : (co = 0 ↔ lt = 0) → (σ 1 1).toInt < 40 → in_good σ a m co lt id := fun u1 u2 => ⟨ag_iff.mp h1, rm_Net h2, ag_iff.mp h3, g4, g5, u1, u2⟩
            by_cases h6 : co = 0
            · rw [if_pos h6]
              by_cases h7 : lt = 0
              · rw [if_pos h7]
                by_cases h8 : rv_Wire_isFull σ = 0
                · rw [if_pos h8]
                  exact ⟨fun _ => rfl, fun q => absurd (base ⟨fun _ => h7, fun _ => h6⟩ (full_iff.mp h8)) q⟩
                · rw [if_neg h8]
                  exact ⟨fun q => absurd (full_iff.mpr q.2.2.2.2.2.2) h8, fun _ => rfl⟩
              · rw [if_neg h7]
                exact ⟨fun q => absurd (q.2.2.2.2.2.1.mp h6) h7, fun _ => rfl⟩
            · rw [if_neg h6]
              by_cases h7 : lt = 0
              · rw [if_pos h7]
                exact ⟨fun q => absurd (q.2.2.2.2.2.1.mpr h7) h6, fun _ => rfl⟩
              · rw [if_neg h7]
                by_cases h8 : rv_Wire_isFull σ = 0
                · rw [if_pos h8]
                  exact ⟨fun _ => rfl, fun q => absurd (base ⟨fun z => absurd z h6, fun z => absurd z h7⟩ (full_iff.mp h8)) q⟩
                · rw [if_neg h8]
                  exact ⟨fun q => absurd (full_iff.mpr q.2.2.2.2.2.2) h8, fun _ => rfl⟩
theorem in_Ms {σ τ : rMem} (hw : σ 1 1 = τ 71 4) {a m co lt id sl : Int32} : (in_good σ a m co lt id → sp_Mod_inject τ a m co lt id sl = (sp_Mod_send τ 2 a m 0 id co lt 0 sl, 1)) ∧ (¬ in_good σ a m co lt id → sp_Mod_inject τ a m co lt id sl = (τ, 0)) := by
  have e3 : (3 : Int32).toInt = 3 := rfl
  have e60 : (60 : Int32).toInt = 60 := rfl
  have e99 : (9999 : Int32).toInt = 9999 := rfl
  unfold sp_Mod_inject in_good
  rw [hw]
  by_cases h1 : a < 0
  · rw [if_pos h1]
    rw [rx_ltI, rx_I0] at h1
    exact ⟨fun q => by have := q.1.1; omega, fun _ => rfl⟩
  · rw [if_neg h1]
    rw [rx_ltI, rx_I0] at h1
    by_cases h2 : 3 < a
    · rw [if_pos h2]
      rw [rx_ltI, e3] at h2
      exact ⟨fun q => by have := q.1.2; omega, fun _ => rfl⟩
    · rw [if_neg h2]
      rw [rx_ltI, e3] at h2
      have key : (if rv_Mod_isMobile m = 0 then 0 else (if co < 0 then 0 else (if 3 < co then 0 else (if lt < 0 then 0 else (if 60 < lt then 0 else (if id < 1 then 0 else (if 9999 < id then 0 else 1)))))) : Int32) = 0 ↔ ¬ (rx_iM m ∧ (0 ≤ co.toInt ∧ co.toInt ≤ 3) ∧ (0 ≤ lt.toInt ∧ lt.toInt ≤ 60) ∧ (1 ≤ id.toInt ∧ id.toInt ≤ 9999)) := by
        by_cases g0 : rx_iM m
        · rw [if_neg (im_yes g0).2]
          simp only [rx_ltI, rx_I0, rx_I1, e3, e60, e99]
          constructor
          · intro q r
            rw [if_neg (by omega), if_neg (by omega), if_neg (by omega), if_neg (by omega), if_neg (by omega), if_neg (by omega)] at q
            exact absurd q (by decide)
          · intro q
            by_cases g1 : co.toInt < 0
            · rw [if_pos g1]
            · rw [if_neg g1]
              by_cases g2 : 3 < co.toInt
              · rw [if_pos g2]
              · rw [if_neg g2]
                by_cases g3 : lt.toInt < 0
                · rw [if_pos g3]
                · rw [if_neg g3]
                  by_cases g4 : 60 < lt.toInt
                  · rw [if_pos g4]
                  · rw [if_neg g4]
                    by_cases g5 : id.toInt < 1
                    · rw [if_pos g5]
                    · rw [if_neg g5]
                      by_cases g6 : 9999 < id.toInt
                      · rw [if_pos g6]
                      · exact absurd ⟨g0, by omega, by omega, by omega⟩ q
        · rw [if_pos (im_no g0).2]
          exact ⟨fun _ r => g0 r.1, fun _ => rfl⟩
      by_cases h3 : (if rv_Mod_isMobile m = 0 then 0 else (if co < 0 then 0 else (if 3 < co then 0 else (if lt < 0 then 0 else (if 60 < lt then 0 else (if id < 1 then 0 else (if 9999 < id then 0 else 1)))))) : Int32) = 0
      · rw [if_pos h3]
        have k3 := key.mp h3
        exact ⟨fun q => absurd ⟨q.2.1, q.2.2.1, q.2.2.2.1, q.2.2.2.2.1⟩ k3, fun _ => rfl⟩
      · rw [if_neg h3]
        have k3 := Classical.not_not.mp (fun z => h3 (key.mpr z))
        have eq2 : ((if co = 0 then 1 else 0 : Int32) = (if lt = 0 then 1 else 0 : Int32)) ↔ (co = 0 ↔ lt = 0) := by
          by_cases g1 : co = 0 <;> by_cases g2 : lt = 0 <;> simp [g1, g2]
        by_cases h4 : (if co = 0 then 1 else 0 : Int32) = (if lt = 0 then 1 else 0 : Int32)
        · rw [if_pos h4]
          by_cases h5 : τ 71 4 < 40
          · rw [if_pos h5]
            rw [rx_ltI, rx_I40] at h5
            exact ⟨fun _ => rfl, fun q => absurd ⟨by omega, k3.1, k3.2.1, k3.2.2.1, k3.2.2.2, eq2.mp h4, h5⟩ q⟩
          · rw [if_neg h5]
            rw [rx_ltI, rx_I40] at h5
            exact ⟨fun q => absurd q.2.2.2.2.2.2 h5, fun _ => rfl⟩
        · rw [if_neg h4]
          exact ⟨fun q => absurd (eq2.mpr q.2.2.2.2.2.1) h4, fun _ => rfl⟩
theorem sc_inject {σ τ : rMem} (hw : r_wire σ τ) {a m co lt id sl : Int32} : sentC σ (in_C σ a m co lt id sl) (vT 2 a (-1) m id co 0 lt sl) := by
  refine sentC_ext ?_ (sc_any (σ' := in_C σ a m co lt id sl) hw (fun c hc => ?_))
  · intro f hf
    show rx_wr (rx_wr (rx_wr (sp_Msg_begin (sp_Wire_nextRow σ).1 (sp_Wire_nextRow σ).2 2 a m id) (sp_Wire_nextRow σ).2 5 co) (sp_Wire_nextRow σ).2 7 lt) (sp_Wire_nextRow σ).2 8 sl (sp_Wire_nextRow σ).2 f = _
    simp only [rx_wr_at, bg_at hf]
    match f, hf with
    | 0, _ => simp [vT]
    | 1, _ => simp [vT]
    | 2, _ => simp [vT]
    | 3, _ => simp [vT]
    | 4, _ => simp [vT]
    | 5, _ => simp [vT]
    | 6, _ => simp [vT]
    | 7, _ => simp [vT]
    | 8, _ => simp [vT]
    | f + 9, hf => omega
  · exact (rx_wr_ne hc).trans ((rx_wr_ne hc).trans ((rx_wr_ne hc).trans (fr_begin hc)))
theorem ok_11 : ok_inject sR := by
  intro j σ a m co lt id sl h hj
  have e5 : (5 : Int32).toInt = 5 := rfl
  by_cases hg : in_good σ a m co lt id
  · have hw := h.1
    have hC := sc_inject hw (a := a) (m := m) (co := co) (lt := lt) (id := id) (sl := sl)
    have e71 : in_C σ a m co lt id sl 71 = σ 71 := hC.1 71 (by omega) (by omega)
    have hq : RR j (20 * j) σ (in_C σ a m co lt id sl) := RR_congr (fun _ _ => rfl) (fun c hc => hC.1 c (by omega) (by omega)) h
    have e1 : σ 1 1 = in_C σ a m co lt id sl 71 4 := by rw [e71]; exact hw.2.2.2.1
    rw [in_Cs.1 hg]
    show _ = (sp_Mod_inject (in_C σ a m co lt id sl) a m co lt id sl).2 ∧ sR (j + 1) (sp_Mod_inject (in_C σ a m co lt id sl) a m co lt id sl).1
    rw [(in_Ms e1).1 hg]
    have hM := sm_send (τ := in_C σ a m co lt id sl) (wire_many hq.1) (kd := 2) (tg := a) (m := m) (nw := 0) (nu := id) (co := co) (lt := lt) (cd := 0) (sl := sl)
    refine ⟨rfl, sR_pair (fC := fun σ => in_C σ a m co lt id sl) (fM := fun τ => sp_Mod_send τ 2 a m 0 id co lt 0 sl) (fun c hc => hC.1 c (by omega) (by omega)) (fun c hc => hM.1 c (by omega) (by omega)) (fun q => RR_up (by omega) (by omega) (RR_send q hC hM ?_ ?_)) h⟩
    · exact ⟨hg.2.1, hg.2.2.2.1, Or.inr (Or.inl ⟨rfl, hg.1, hg.2.2.1, rfl⟩)⟩
    · refine ⟨rfl, rfl, rfl, rfl, rfl, rfl, rfl, rfl, fun z => ?_⟩
      have z2 : a.toInt = (5 : Int32).toInt := by rw [show a = 5 from z]
      have := hg.1.2
      omega
  · rw [in_Cs.2 hg]
    show _ = (sp_Mod_inject σ a m co lt id sl).2 ∧ sR (j + 1) (sp_Mod_inject σ a m co lt id sl).1
    rw [(in_Ms h.1.2.2.2.1).2 hg]
    exact ⟨rfl, sR_same h⟩
/-! duplicate -/
theorem dup_M {τ : rMem} {i : Int32} (hi : 0 ≤ i.toInt ∧ i.toInt < (τ 71 4).toInt) (h40 : (τ 71 4).toInt < 40) : sp_Mod_duplicate τ i = (sp_Mod_send τ (mrow τ i.toNatClampNeg 0) (mrow τ i.toNatClampNeg 1) (mrow τ i.toNatClampNeg 2) (mrow τ i.toNatClampNeg 3) (mrow τ i.toNatClampNeg 4) (mrow τ i.toNatClampNeg 5) (mrow τ i.toNatClampNeg 6) (mrow τ i.toNatClampNeg 7) (mrow τ i.toNatClampNeg 8), 1) := by
  have hn := rx_cn (x := τ 71 4) (by omega)
  have hn2 := rx_cn (x := i) (by omega)
  have j0 : (0 : Int32).toNatClampNeg = 0 := rfl
  have j1 : (1 : Int32).toNatClampNeg = 1 := rfl
  have j2 : (2 : Int32).toNatClampNeg = 2 := rfl
  have j3 : (3 : Int32).toNatClampNeg = 3 := rfl
  have j4 : (4 : Int32).toNatClampNeg = 4 := rfl
  have j5 : (5 : Int32).toNatClampNeg = 5 := rfl
  have j6 : (6 : Int32).toNatClampNeg = 6 := rfl
  have j7 : (7 : Int32).toNatClampNeg = 7 := rfl
  have j8 : (8 : Int32).toNatClampNeg = 8 := rfl
  have hmsg : ¬ rv_Mod_isMessage τ i = 0 := by
    unfold rv_Mod_isMessage
    rw [if_neg (by rw [rx_ltI, rx_I0]; omega), if_neg (by rw [rx_leI]; omega)]
    decide
  have h4 : τ 71 4 < 40 := by rw [rx_ltI, rx_I40]; exact h40
  unfold sp_Mod_duplicate sp_Mod_send
  rw [if_neg hmsg, if_pos h4, if_pos h4]
  have a0 := ms_ix0 (i := τ 71 4) (by omega)
  have A := fun (k : Int32) (hk : 0 ≤ k.toInt ∧ k.toInt ≤ 8) => ms_ix (i := τ 71 4) (by omega) hk
  have B := fun (k : Int32) (hk : 0 ≤ k.toInt ∧ k.toInt ≤ 8) => ms_ix (i := i) (by omega) hk
  simp only [rx_wr_ne (show (71 : Nat) ≠ 72 by decide), a0, A 0 (by decide), A 1 (by decide), A 2 (by decide), A 3 (by decide), A 4 (by decide), A 5 (by decide), A 6 (by decide), A 7 (by decide), A 8 (by decide), B 0 (by decide), B 1 (by decide), B 2 (by decide), B 3 (by decide), B 4 (by decide), B 5 (by decide), B 6 (by decide), B 7 (by decide), B 8 (by decide), j0, j1, j2, j3, j4, j5, j6, j7, j8, Nat.add_zero]
  simp (disch := omega) only [rx_wr_rd]
  rfl
