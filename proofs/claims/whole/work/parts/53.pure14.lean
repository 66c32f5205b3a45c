theorem RS_relay {J : Nat} {T : Int} {σ τ : rMem} {t m : Int32} (ht : 1 ≤ t.toInt ∧ t.toInt ≤ 3) (hm : rx_iM m) (he : m_eq (σ 44) (τ 73)) (hok : m_ok σ (σ 44)) (hk : σ 44 0 = 2) (hm3 : σ 44 3 = m) (h : RR J T σ τ) : RS J T σ τ (sp_Wire_sendOn (rx_wr (rx_wr σ (54 + 4 * (t - 1).toNatClampNeg + 2) m.toNatClampNeg (σ 44 4)) (54 + 4 * (t - 1).toNatClampNeg + 3) m.toNatClampNeg (σ 1 2 + 8)) 44 0 (-1)) (sp_Mod_send (rx_wr (rx_wr τ 90 (2 * t + m).toNatClampNeg (σ 44 4)) 91 (2 * t + m).toNatClampNeg (σ 1 2 + 8)) 2 0 m 0 (σ 44 4) (σ 44 5) (σ 44 7) 0 (σ 44 8)) := by
  obtain ⟨i1, i2⟩ := fa_ix ht hm
  have hn := rx_j2 hm
  have q := h.2.2.2.2.1 _ i2 _ hn
  have S1 := RS_entry (x := σ 44 4) (y := σ 1 2 + 8) (z := σ (54 + 4 * (t - 1).toNatClampNeg + 1) m.toNatClampNeg) ht hm q.2 h
  have x1 : rx_wr (rx_wr (rx_wr σ (54 + 4 * (t - 1).toNatClampNeg + 2) m.toNatClampNeg (σ 44 4)) (54 + 4 * (t - 1).toNatClampNeg + 3) m.toNatClampNeg (σ 1 2 + 8)) (54 + 4 * (t - 1).toNatClampNeg + 1) m.toNatClampNeg (σ (54 + 4 * (t - 1).toNatClampNeg + 1) m.toNatClampNeg) = rx_wr (rx_wr σ (54 + 4 * (t - 1).toNatClampNeg + 2) m.toNatClampNeg (σ 44 4)) (54 + 4 * (t - 1).toNatClampNeg + 3) m.toNatClampNeg (σ 1 2 + 8) := by
    have e : rx_wr (rx_wr σ (54 + 4 * (t - 1).toNatClampNeg + 2) m.toNatClampNeg (σ 44 4)) (54 + 4 * (t - 1).toNatClampNeg + 3) m.toNatClampNeg (σ 1 2 + 8) (54 + 4 * (t - 1).toNatClampNeg + 1) m.toNatClampNeg = σ (54 + 4 * (t - 1).toNatClampNeg + 1) m.toNatClampNeg := by
      rw [rx_wr_ne (by omega), rx_wr_ne (by omega)]
    have e2 := rx_wr_self (σ := rx_wr (rx_wr σ (54 + 4 * (t - 1).toNatClampNeg + 2) m.toNatClampNeg (σ 44 4)) (54 + 4 * (t - 1).toNatClampNeg + 3) m.toNatClampNeg (σ 1 2 + 8)) (i := 54 + 4 * (t - 1).toNatClampNeg + 1) (k := m.toNatClampNeg)
    rw [e] at e2
    exact e2
  have x2 : rx_wr (rx_wr (rx_wr τ 90 (2 * t + m).toNatClampNeg (σ 44 4)) 91 (2 * t + m).toNatClampNeg (σ 1 2 + 8)) 89 (2 * t + m).toNatClampNeg (σ (54 + 4 * (t - 1).toNatClampNeg + 1) m.toNatClampNeg) = rx_wr (rx_wr τ 90 (2 * t + m).toNatClampNeg (σ 44 4)) 91 (2 * t + m).toNatClampNeg (σ 1 2 + 8) := by
    have e : rx_wr (rx_wr τ 90 (2 * t + m).toNatClampNeg (σ 44 4)) 91 (2 * t + m).toNatClampNeg (σ 1 2 + 8) 89 (2 * t + m).toNatClampNeg = σ (54 + 4 * (t - 1).toNatClampNeg + 1) m.toNatClampNeg := by
      rw [rx_wr_ne (by omega), rx_wr_ne (by omega), i1]
      exact q.1.1.symm
    have e2 := rx_wr_self (σ := rx_wr (rx_wr τ 90 (2 * t + m).toNatClampNeg (σ 44 4)) 91 (2 * t + m).toNatClampNeg (σ 1 2 + 8)) (i := 89) (k := (2 * t + m).toNatClampNeg)
    rw [e] at e2
    exact e2
  rw [x1, x2] at S1
  have f44 : rx_wr (rx_wr σ (54 + 4 * (t - 1).toNatClampNeg + 2) m.toNatClampNeg (σ 44 4)) (54 + 4 * (t - 1).toNatClampNeg + 3) m.toNatClampNeg (σ 1 2 + 8) 44 = σ 44 := by
    rw [rx_wr_ne (by omega), rx_wr_ne (by omega)]
  generalize rx_wr (rx_wr σ (54 + 4 * (t - 1).toNatClampNeg + 2) m.toNatClampNeg (σ 44 4)) (54 + 4 * (t - 1).toNatClampNeg + 3) m.toNatClampNeg (σ 1 2 + 8) = σ1 at *
  generalize rx_wr (rx_wr τ 90 (2 * t + m).toNatClampNeg (σ 44 4)) 91 (2 * t + m).toNatClampNeg (σ 1 2 + 8) = τ1 at *
  have hC := sc_on44 S1.1.1 (tg := 0) (nw := -1)
  rw [f44] at hC
  have hreq : (0 ≤ (σ 44 5).toInt ∧ (σ 44 5).toInt ≤ 3) ∧ σ 44 6 = 0 := by
    rcases hok.2.2 with w | w | w | w | w | w
    · exact absurd (hk.symm.trans w.1) (by decide)
    · exact ⟨w.2.2.1, w.2.2.2⟩
    · exact absurd (hk.symm.trans w.1) (by decide)
    · exact absurd (hk.symm.trans w.1) (by decide)
    · exact absurd (hk.symm.trans w.1) (by decide)
    · exact absurd (hk.symm.trans w.1) (by decide)
  have z03 : 0 ≤ (0 : Int32).toInt ∧ (0 : Int32).toInt ≤ 3 := by decide
  refine RS_tr S1 (RS_send S1.1 hC (sm_send (wire_many S1.1.1)) ⟨hok.1, hok.2.1, Or.inr (Or.inl ⟨hk, z03, hreq.1, hreq.2⟩)⟩ ⟨hk, rfl, hm3, rfl, rfl, hreq.2, rfl, rfl, fun z => ?_⟩)
  exact absurd (show (0 : Int32) = 5 from z) (by decide)
theorem RS_reqF {J : Nat} {T : Int} {σ τ : rMem} {t m : Int32} (ht : 1 ≤ t.toInt ∧ t.toInt ≤ 3) (hm : rx_iM m) (he : m_eq (σ 44) (τ 73)) (hok : m_ok σ (σ 44)) (hk : σ 44 0 = 2) (hm3 : σ 44 3 = m) (h : RR J T σ τ) : RS J T σ τ (sp_Fa_takeRequest σ (t - 1).toNatClampNeg 44) (sp_Mod_requestAtForeign τ t m) := by
  obtain ⟨i1, i2⟩ := fa_ix ht hm
  have hn := rx_j2 hm
  have S := RS_relay ht hm he hok hk hm3 h
  have hq := nq_in h.1
  obtain ⟨e0, e1, e2, e4, e5, e6, e7, e8, -⟩ := he
  obtain ⟨n1, n2⟩ := fa_no ht h
  unfold sp_Fa_takeRequest sp_Mod_requestAtForeign
  dsimp only
  rw [hm3, n1, fa_tp ht hm h]
  simp (disch := omega) only [j_4, j_5, j_6, j_8, rx_wr_ne]
  rw [← e4, ← e5, ← e7, ← e8, ← h.1.2.2.2.2]
  by_cases h1 : σ 44 5 = t
  · rw [if_pos h1, if_pos h1]
    by_cases h2 : rv_Mod_takesPlace τ t m = 0
    · rw [if_pos h2, if_pos h2]
      by_cases h3 : rv_Fa_isCrowded σ (t - 1).toNatClampNeg = 0
      · rw [if_pos h3, if_pos ((fa_cr ht h).mp h3)]
        exact S
      · rw [if_neg h3, if_neg (fun q => h3 ((fa_cr ht h).mpr q))]
        have f54 : (sp_Wire_sendInNetwork σ t 3 m (σ 44 4)).1 (54 + 4 * (t - 1).toNatClampNeg) 0 = t := by
          rw [in_ne (by omega), fr_nextRow (by omega), n1]
        rw [f54]
        have t3 : 0 ≤ t.toInt ∧ t.toInt ≤ 3 := ⟨by omega, by omega⟩
        have hC : sentC σ (rx_wr (rx_wr (sp_Wire_sendInNetwork σ t 3 m (σ 44 4)).1 (sp_Wire_sendInNetwork σ t 3 m (σ 44 4)).2 5 t) (sp_Wire_sendInNetwork σ t 3 m (σ 44 4)).2 6 66) (vT 3 5 t m (σ 44 4) t 66 0 0) := by
          refine sc_on h.1 (fun c hc => ?_) (fun f hf => ?_)
          · show rx_wr (rx_wr (sp_Wire_sendInNetwork σ t 3 m (σ 44 4)).1 (sp_Wire_nextRow σ).2 5 t) (sp_Wire_nextRow σ).2 6 66 c = _
            rw [rx_wr_ne hc, rx_wr_ne hc, in_ne hc]
          · show rx_wr (rx_wr (sp_Wire_sendInNetwork σ t 3 m (σ 44 4)).1 (sp_Wire_nextRow σ).2 5 t) (sp_Wire_nextRow σ).2 6 66 (sp_Wire_nextRow σ).2 f = _
            simp only [rx_wr_at, in_at hf]
            match f, hf with
            | 0, _ => simp [vT]
            | 1, _ => simp [vT]
            | 2, _ => simp [vT]
            | 3, _ => simp [vT]
            | 4, _ => simp [vT]
            | 5, _ => simp [vT]
            | 6, _ => simp [vT]
            | 7, _ => simp [vT]
            | 8, _ => simp [vT]
            | f + 9, hf => omega
        exact RS_send h hC (sm_send (wire_many h.1)) ⟨hm, z60, Or.inr (Or.inr (Or.inl ⟨rfl, Or.inr rfl, t3⟩))⟩ ⟨rfl, rfl, rfl, rfl, rfl, rfl, rfl, rfl, fun _ => rfl⟩
    · rw [if_neg h2, if_neg h2]
      exact S
  · rw [if_neg h1, if_neg h1]
    exact RS_id h
theorem RS_repF {J : Nat} {T : Int} {σ τ : rMem} {t m : Int32} (ht : 1 ≤ t.toInt ∧ t.toInt ≤ 3) (hm : rx_iM m) (he : m_eq (σ 44) (τ 73)) (hok : m_ok σ (σ 44)) (hk : σ 44 0 = 3) (hm3 : σ 44 3 = m) (hT : T ≤ 100000) (h : RR J T σ τ) : RS J T σ τ (sp_Fa_takeReply σ (t - 1).toNatClampNeg 44) (sp_Mod_replyAtForeign τ t m) := by
  obtain ⟨i1, i2⟩ := fa_ix ht hm
  have hn := rx_j2 hm
  have hq := nq_in h.1
  have hclk := h.2.1
  obtain ⟨e0, e1, e2, e4, e5, e6, e7, e8, -⟩ := he
  obtain ⟨n1, n2⟩ := fa_no ht h
  obtain ⟨⟨q1, q2, q3⟩, qr⟩ := h.2.2.2.2.1 _ i2 _ hn
  have hlt := hok.2.1
  have ea : (σ 1 2 + σ 44 7).toInt = (σ 1 2).toInt + (σ 44 7).toInt := rx_addI (by omega) (by omega)
  have hrep : 0 ≤ (σ 44 5).toInt ∧ (σ 44 5).toInt ≤ 3 := by
    rcases hok.2.2 with w | w | w | w | w | w
    · exact absurd (hk.symm.trans w.1) (by decide)
    · exact absurd (hk.symm.trans w.1) (by decide)
    · exact w.2.2
    · exact absurd (hk.symm.trans w.1) (by decide)
    · exact absurd (hk.symm.trans w.1) (by decide)
    · exact absurd (hk.symm.trans w.1) (by decide)
  unfold sp_Fa_takeReply sp_Mod_replyAtForeign rv_Fa_hasEntry
  dsimp only
  rw [hm3]
  simp (disch := omega) only [j_4, j_5, j_6, j_7, j_8, rx_wr_ne]
  rw [i1, ← e4, ← e5, ← e6, ← e7, ← e8, ← q1, ← q2, ← q3, ← h.1.2.2.2.2, n1]
  by_cases h1 : σ (54 + 4 * (t - 1).toNatClampNeg + 3) m.toNatClampNeg ≤ σ 1 2
  · rw [if_pos h1, if_pos rfl, if_pos h1]
    exact RS_id h
  · rw [if_neg h1, if_neg (show ¬ (1 : Int32) = 0 by decide), if_neg h1]
    by_cases h2 : σ (54 + 4 * (t - 1).toNatClampNeg + 2) m.toNatClampNeg = σ 44 4
    · rw [if_pos h2, if_pos h2]
      have key : ∀ σ1 τ1 : rMem, RS J T σ τ σ1 τ1 → σ1 44 = σ 44 → RS J T σ τ (sp_Wire_sendOn σ1 44 5 t) (sp_Mod_send τ1 3 5 m t (σ 44 4) (σ 44 5) (σ 44 7) (σ 44 6) (σ 44 8)) := by
        intro σ1 τ1 S1 f44
        have hC := sc_on44 S1.1.1 (tg := 5) (nw := t)
        rw [f44] at hC
        exact RS_tr S1 (RS_send S1.1 hC (sm_send (wire_many S1.1.1)) ⟨hok.1, hok.2.1, Or.inr (Or.inr (Or.inl ⟨hk, Or.inr rfl, hrep⟩))⟩ ⟨hk, rfl, hm3, rfl, rfl, rfl, rfl, rfl, fun _ => rfl⟩)
      have R1 : ∀ z : Int32, (0 ≤ z.toInt ∧ z.toInt ≤ (σ 1 2).toInt + 60) → RS J T σ τ (rx_wr (rx_wr σ (54 + 4 * (t - 1).toNatClampNeg + 3) m.toNatClampNeg 0) (54 + 4 * (t - 1).toNatClampNeg + 1) m.toNatClampNeg z) (rx_wr (rx_wr τ 91 (2 * ((t - 1).toNatClampNeg + 1) + m.toNatClampNeg) 0) 89 (2 * ((t - 1).toNatClampNeg + 1) + m.toNatClampNeg) z) := by
        intro z hz
        refine ⟨RR_fas i2 hn h (fun c hc => ?_) (fun c k hk => ?_) (fun c hc => ?_) (fun c k hk => ?_) ?_ ?_, fun c hc => ?_, fun c hc => ?_⟩
        · rw [rx_wr_ne (by omega), rx_wr_ne (by omega)]
        · rw [rx_wr_sl hk, rx_wr_sl hk]
        · rw [rx_wr_ne (by omega), rx_wr_ne (by omega)]
        · rw [rx_wr_sl hk, rx_wr_sl hk]
        · unfold r_fa
          simp (disch := omega) only [rx_wr_ne, rx_wr_eq]
          exact ⟨trivial, q2, trivial⟩
        · simp (disch := omega) only [rx_wr_ne, rx_wr_eq]
          exact hz
        · rw [rx_wr_ne (by omega), rx_wr_ne (by omega)]
        · rw [rx_wr_ne (by omega), rx_wr_ne (by omega)]
      by_cases h3 : σ 44 6 = 0
      · rw [if_pos h3, if_pos h3]
        refine key _ _ (R1 _ ⟨by omega, by omega⟩) ?_
        rw [rx_wr_ne (by omega), rx_wr_ne (by omega)]
      · rw [if_neg h3, if_neg h3]
        have S1 := R1 (σ (54 + 4 * (t - 1).toNatClampNeg + 1) m.toNatClampNeg) qr
        have x1 : rx_wr (rx_wr σ (54 + 4 * (t - 1).toNatClampNeg + 3) m.toNatClampNeg 0) (54 + 4 * (t - 1).toNatClampNeg + 1) m.toNatClampNeg (σ (54 + 4 * (t - 1).toNatClampNeg + 1) m.toNatClampNeg) = rx_wr σ (54 + 4 * (t - 1).toNatClampNeg + 3) m.toNatClampNeg 0 := by
          have e : rx_wr σ (54 + 4 * (t - 1).toNatClampNeg + 3) m.toNatClampNeg 0 (54 + 4 * (t - 1).toNatClampNeg + 1) m.toNatClampNeg = σ (54 + 4 * (t - 1).toNatClampNeg + 1) m.toNatClampNeg := by
            rw [rx_wr_ne (by omega)]
          have e2 := rx_wr_self (σ := rx_wr σ (54 + 4 * (t - 1).toNatClampNeg + 3) m.toNatClampNeg 0) (i := 54 + 4 * (t - 1).toNatClampNeg + 1) (k := m.toNatClampNeg)
          rw [e] at e2
          exact e2
        rw [x1] at S1
        refine key _ _ S1 ?_
        rw [rx_wr_ne (by omega)]
    · rw [if_neg h2, if_neg h2]
      exact RS_id h
theorem RS_tunnel {J : Nat} {T : Int} {σ τ : rMem} {t m : Int32} (ht : 1 ≤ t.toInt ∧ t.toInt ≤ 3) (hm : rx_iM m) (he : m_eq (σ 44) (τ 73)) (hnu : (σ 44 4).toInt ≤ (σ 68 m.toNatClampNeg).toInt) (h : RR J T σ τ) : RS J T σ τ (sp_Fa_takeTunnel σ (t - 1).toNatClampNeg m (σ 44 4)) (if τ 89 (2 * t + m).toNatClampNeg ≤ τ 71 3 then τ else sp_Mod_send τ 4 5 m t (τ 73 4) 0 0 0 0) := by
  obtain ⟨i1, i2⟩ := fa_ix ht hm
  have hn := rx_j2 hm
  obtain ⟨e0, e1, e2, e4, -⟩ := he
  obtain ⟨n1, n2⟩ := fa_no ht h
  obtain ⟨⟨q1, q2, q3⟩, qr⟩ := h.2.2.2.2.1 _ i2 _ hn
  unfold sp_Fa_takeTunnel rv_Fa_isVisited
  dsimp only
  rw [i1, ← e4, ← q1, ← h.1.2.2.2.2, n1]
  by_cases h1 : σ (54 + 4 * (t - 1).toNatClampNeg + 1) m.toNatClampNeg ≤ σ 1 2
  · rw [if_pos h1, if_pos rfl, if_pos h1]
    exact RS_id h
  · rw [if_neg h1, if_neg (show ¬ (1 : Int32) = 0 by decide), if_neg h1]
    exact RS_in h ⟨hm, z60, Or.inr (Or.inr (Or.inr (Or.inl ⟨rfl, Or.inr rfl, hnu⟩)))⟩
