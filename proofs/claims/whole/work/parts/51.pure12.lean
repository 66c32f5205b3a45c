/-! the message that is delivered: cell 44 of the class, cell 73 of the reference -/
theorem j_0 : (0 : Int32).toNatClampNeg = 0 := rfl
theorem j_1 : (1 : Int32).toNatClampNeg = 1 := rfl
theorem j_2 : (2 : Int32).toNatClampNeg = 2 := rfl
theorem j_3 : (3 : Int32).toNatClampNeg = 3 := rfl
theorem j_4 : (4 : Int32).toNatClampNeg = 4 := rfl
theorem j_5 : (5 : Int32).toNatClampNeg = 5 := rfl
theorem j_6 : (6 : Int32).toNatClampNeg = 6 := rfl
theorem j_7 : (7 : Int32).toNatClampNeg = 7 := rfl
theorem j_8 : (8 : Int32).toNatClampNeg = 8 := rfl
theorem sl_rep {σ : rMem} {q : Nat} {h : Int32} : rv_Msg_replySeal σ q h = rv_Mod_replySeal h (σ q 3) (σ q 5) (σ q 6) (σ q 7) (σ q 4) := rfl
theorem sl_req {σ : rMem} {q : Nat} {h : Int32} : rv_Msg_requestSeal σ q h = rv_Mod_requestSeal h (σ q 3) (σ q 5) (σ q 7) (σ q 4) := rfl
def taP (s : rMem) (j : Nat) (a : Int32) : Prop := (s (46 + j) 6 = a → s (46 + j) 6 ≠ 0 ∧ ¬ (s 1 2 + 4 < s (46 + j) 7)) ∧ (s (46 + j) 10 = 0 ∨ s (46 + j) 11 ≠ a)
def taQ (t : rMem) (n : Nat) (a : Int32) : Prop := (t 77 n = a → ¬ (t 77 n ≤ 0) ∧ ¬ (t 71 3 + 4 < t 78 n)) ∧ (t 81 n ≤ 0 ∨ t 82 n ≠ a)
def ta1 (σ : rMem) (j : Nat) (a : Int32) : rMem := rx_wr (rx_wr σ (46 + j) 8 a) (46 + j) 9 (rx_wr σ (46 + j) 8 a 1 2 + 12)
def tm1 (τ : rMem) (n : Nat) (a : Int32) : rMem := rx_wr (rx_wr τ 79 n a) 80 n (rx_wr τ 79 n a 71 3 + 12)
theorem ta_C {σ : rMem} {j : Nat} {a : Int32} : (taP (ta1 σ j a) j a → sp_Mob_takeAdvert σ j a = sp_Mob_registerWith (ta1 σ j a) j a) ∧ (¬ taP (ta1 σ j a) j a → sp_Mob_takeAdvert σ j a = ta1 σ j a) := by
  have e : sp_Mob_takeAdvert σ j a = (fun m2 : rMem => if (m2 (46 + j) 10) = 0 then (if (m2 (46 + j) 6) = a then (if (rv_Mob_endsSoon m2 j) = 0 then m2 else sp_Mob_registerWith m2 j a) else sp_Mob_registerWith m2 j a) else (if (m2 (46 + j) 11) = a then (if (m2 (46 + j) 6) = a then (if (rv_Mob_endsSoon m2 j) = 0 then m2 else m2) else m2) else (if (m2 (46 + j) 6) = a then (if (rv_Mob_endsSoon m2 j) = 0 then m2 else sp_Mob_registerWith m2 j a) else sp_Mob_registerWith m2 j a))) (ta1 σ j a) := rfl
  rw [e]
  generalize ta1 σ j a = s
  dsimp only
  unfold taP rv_Mob_endsSoon
  generalize sp_Mob_registerWith s j a = r
  constructor
  · intro hp
    grind
  · intro hp
    grind
theorem ta_gen {α : Type} {p1 p2 p3 p4 p5 : Prop} [Decidable p1] [Decidable p2] [Decidable p3] [Decidable p4] [Decidable p5] (s r : α) : (((p1 → ¬ p2 ∧ ¬ p3) ∧ (p4 ∨ ¬ p5)) → (if p1 then (if (if p2 then 0 else (if p3 then 0 else 1) : Int32) = 0 then s else (if (if p4 then 0 else (if p5 then 1 else 0) : Int32) = 0 then r else s)) else (if (if p4 then 0 else (if p5 then 1 else 0) : Int32) = 0 then r else s)) = r) ∧ (¬ ((p1 → ¬ p2 ∧ ¬ p3) ∧ (p4 ∨ ¬ p5)) → (if p1 then (if (if p2 then 0 else (if p3 then 0 else 1) : Int32) = 0 then s else (if (if p4 then 0 else (if p5 then 1 else 0) : Int32) = 0 then r else s)) else (if (if p4 then 0 else (if p5 then 1 else 0) : Int32) = 0 then r else s)) = s) := by
  by_cases h1 : p1 <;> by_cases h2 : p2 <;> by_cases h3 : p3 <;> by_cases h4 : p4 <;> by_cases h5 : p5 <;> simp [h1, h2, h3, h4, h5]
theorem ta_M {τ : rMem} {m a : Int32} : (taQ (tm1 τ m.toNatClampNeg a) m.toNatClampNeg a → sp_Mod_advert τ m a = sp_Mod_register (tm1 τ m.toNatClampNeg a) m a) ∧ (¬ taQ (tm1 τ m.toNatClampNeg a) m.toNatClampNeg a → sp_Mod_advert τ m a = tm1 τ m.toNatClampNeg a) := by
  have e : sp_Mod_advert τ m a = (fun m2 : rMem => if (m2 77 m.toNatClampNeg) = a then (if (if (m2 77 m.toNatClampNeg) ≤ 0 then 0 else (if ((m2 71 3) + 4) < (m2 78 m.toNatClampNeg) then 0 else 1) : Int32) = 0 then m2 else (if (if (m2 81 m.toNatClampNeg) ≤ 0 then 0 else (if (m2 82 m.toNatClampNeg) = a then 1 else 0) : Int32) = 0 then sp_Mod_register m2 m a else m2)) else (if (if (m2 81 m.toNatClampNeg) ≤ 0 then 0 else (if (m2 82 m.toNatClampNeg) = a then 1 else 0) : Int32) = 0 then sp_Mod_register m2 m a else m2)) (tm1 τ m.toNatClampNeg a) := rfl
  rw [e]
  generalize tm1 τ m.toNatClampNeg a = s
  dsimp only
  unfold taQ
  generalize sp_Mod_register s m a = r
  exact ta_gen s r
theorem RS_advert {J : Nat} {T : Int} {σ τ : rMem} {m a : Int32} (hm : rx_iM m) (ha : 0 ≤ a.toInt ∧ a.toInt ≤ 3) (hT : T + (J + 1 : Nat) ≤ 100000) (h : RR J T σ τ) : RS (J + 1) T σ τ (sp_Mob_takeAdvert σ m.toNatClampNeg a) (sp_Mod_advert τ m a) := by
  have hn := rx_j2 hm
  have S1 : RS J T σ τ (ta1 σ m.toNatClampNeg a) (tm1 τ m.toNatClampNeg a) := by
    unfold ta1 tm1
    have A := RS_slot (x := a) (k := 8) (c := 79) hn h (by simp)
    have ec := A.1.1.2.2.2.2
    rw [← ec]
    exact RS_tr A (RS_slot hn A.1 (by simp))
  have hC := @ta_C σ m.toNatClampNeg a
  have hM := @ta_M τ m a
  generalize ta1 σ m.toNatClampNeg a = s at *
  generalize tm1 τ m.toNatClampNeg a = t at *
  obtain ⟨⟨a1, a2, a3, a4, a5, a6, a7, a8, a9, a10, a11⟩, -, -, hr⟩ := S1.1.2.2.2.1 _ hn
  have h0 := hr.2.2.2.1
  have hPQ : taP s m.toNatClampNeg a ↔ taQ t m.toNatClampNeg a := by
    unfold taP taQ
    rw [← a4, ← a5, ← a8, ← a9, ← S1.1.1.2.2.2.2]
    have z1 : (s (46 + m.toNatClampNeg) 10 = 0) ↔ (s (46 + m.toNatClampNeg) 10 ≤ 0) := by
      rw [rx_eqI, rx_leI, rx_I0]
      omega
    have z2 : s (46 + m.toNatClampNeg) 6 = a → ((s (46 + m.toNatClampNeg) 6 ≠ 0) ↔ ¬ (s (46 + m.toNatClampNeg) 6 ≤ 0)) := by
      intro e
      rw [e, ne_eq, rx_eqI, rx_leI, rx_I0]
      omega
    rw [z1]
    constructor
    · rintro ⟨p1, p2⟩
      exact ⟨fun e => ⟨(z2 e).mp (p1 e).1, (p1 e).2⟩, p2⟩
    · rintro ⟨p1, p2⟩
      exact ⟨fun e => ⟨(z2 e).mpr (p1 e).1, (p1 e).2⟩, p2⟩
  by_cases hP : taP s m.toNatClampNeg a
  · rw [hC.1 hP, hM.1 (hPQ.mp hP)]
    have hid := hr.2.2.1
    exact RS_tr S1 (RS_register hm ha (by omega) (by omega) hT S1.1).1
  · rw [hC.2 hP, hM.2 (fun q => hP (hPQ.mpr q))]
    exact RS_up (by omega) S1
theorem RS_reply {J : Nat} {T : Int} {σ τ : rMem} {m : Int32} (hm : rx_iM m) (he : m_eq (σ 44) (τ 73)) (hm3 : σ 44 3 = m) (h : RR J T σ τ) : RS J T σ τ (sp_Mob_takeReply σ m.toNatClampNeg 44) (sp_Mod_replyAtMobile τ m) := by
  have hn := rx_j2 hm
  obtain ⟨e0, e1, e2, e4, e5, e6, e7, e8, -⟩ := he
  obtain ⟨⟨a1, a2, a3, a4, a5, a6, a7, a8, a9, a10, a11⟩, -, -, hr⟩ := h.2.2.2.1 _ hn
  have hz : ∀ x, x = (0 : Int32) → 0 ≤ x.toInt := by rintro _ rfl; decide
  unfold sp_Mob_takeReply sp_Mod_replyAtMobile
  dsimp only
  rw [sl_rep, hm3]
  simp (disch := omega) only [j_4, j_5, j_6, j_7, j_8, rx_wr_ne, rx_wr_sl, rx_wr_eq]
  rw [← e4, ← e5, ← e6, ← e7, ← e8, ← a8, ← a1, ← a10]
  by_cases h1 : σ (46 + m.toNatClampNeg) 10 = 0
  · rw [if_pos h1, if_pos h1]
    exact RS_id h
  · rw [if_neg h1, if_neg h1]
    by_cases h2 : σ (46 + m.toNatClampNeg) 10 = σ 44 4
    · rw [if_pos h2, if_pos h2.symm]
      have S1 : RS J T σ τ (rx_wr σ (46 + m.toNatClampNeg) 10 0) (rx_wr τ 81 m.toNatClampNeg 0) := RS_slot hn h (by simp)
      by_cases h3 : σ 44 6 = 66
      · rw [if_pos h3, if_pos h3]
        exact S1
      · rw [if_neg h3, if_neg h3]
        by_cases h4 : σ 44 8 = rv_Mod_replySeal (σ (46 + m.toNatClampNeg) 3) m (σ 44 5) (σ 44 6) (σ 44 7) (σ 44 4)
        · rw [if_pos h4, if_pos h4]
          by_cases h5 : σ 44 6 = 0
          · rw [if_pos h5, if_pos h5]
            have S2 := RS_tr S1 (RS_slot (x := σ 44 5) (k := 6) (c := 77) hn S1.1 (by simp))
            by_cases h6 : σ 44 5 = 0
            · rw [if_pos h6, if_pos h6]
              exact RS_tr S2 (RS_slot hn S2.1 (by simp))
            · rw [if_neg h6, if_neg h6]
              exact RS_tr S2 (RS_slot hn S2.1 (by simp))
          · rw [if_neg h5, if_neg h5]
            exact S1
        · rw [if_neg h4, if_neg h4]
          exact RS_id h
    · rw [if_neg h2, if_neg (fun q => h2 q.symm)]
      exact RS_id h
theorem RS_data {J : Nat} {T : Int} {σ τ : rMem} {m : Int32} (hm : rx_iM m) (he : m_eq (σ 44) (τ 73)) (hnu : (σ 44 4).toInt ≤ (σ 68 m.toNatClampNeg).toInt) (h : RR J T σ τ) : RS J T σ τ (sp_Mob_takeData σ m.toNatClampNeg (σ 44 4)) (sp_Mod_dataAtMobile τ m) := by
  have hn := rx_j2 hm
  obtain ⟨e0, e1, e2, e4, e5, e6, e7, e8, -⟩ := he
  obtain ⟨⟨a1, a2, a3, a4, a5, a6, a7, a8, a9, a10, a11⟩, -, -, hr⟩ := h.2.2.2.1 _ hn
  have hm0 : σ (46 + m.toNatClampNeg) 0 = m := by rw [(h.2.2.1.1 _ hn).1, nI_m hm]
  have hrc := hr.2.1
  have hcn := hr.1
  have ei : (σ (46 + m.toNatClampNeg) 13 + 1).toInt = (σ (46 + m.toNatClampNeg) 13).toInt + 1 := by rw [rx_addI (by rw [rx_I1]; omega) (by rw [rx_I1]; omega), rx_I1]
  unfold sp_Mob_takeData sp_Mod_dataAtMobile
  dsimp only
  rw [j_4, rx_wr_eq, ← a11, ← e4]
  by_cases h1 : σ 44 4 = σ (46 + m.toNatClampNeg) 13 + 1
  · rw [if_pos h1, if_pos h1, rx_wr_eq, rx_wr_sl (by omega), hm0, h1]
    have R1 : RR J T (rx_wr σ (46 + m.toNatClampNeg) 13 (σ (46 + m.toNatClampNeg) 13 + 1)) (rx_wr τ 84 m.toNatClampNeg (σ (46 + m.toNatClampNeg) 13 + 1)) := by
      rw [h1, ei] at hnu
      refine RR_mob hn h (Nat.le_refl _) (fun c hc => rx_wr_ne hc) ⟨rx_wr_sl (by omega), rx_wr_sl (by omega)⟩ (fun c hc => rx_wr_ne (by omega)) (fun c k hk => rx_wr_sl hk) ?_ ?_ ?_
      · unfold r_mob
        simp (disch := omega) only [rx_wr_sl, rx_wr_ne, rx_wr_eq]
        exact ⟨a1, a2, a3, a4, a5, a6, a7, a8, a9, a10, trivial⟩
      · unfold r_rng at hr ⊢
        simp (disch := omega) only [rx_wr_sl, rx_wr_ne, rx_wr_eq]
        rw [ei]
        exact ⟨hr.1, ⟨by omega, by omega⟩, hr.2.2⟩
      · rw [rx_wr_eq, ei]
        omega
    refine RS_tr ⟨R1, fun c hc => rx_wr_ne (by omega), fun c hc => rx_wr_ne (by omega)⟩ (RS_to R1 ⟨hm, z60, Or.inr (Or.inr (Or.inr (Or.inr (Or.inr ⟨rfl, rfl, ?_⟩))))⟩ (by decide))
    show (σ (46 + m.toNatClampNeg) 13 + 1).toInt ≤ (rx_wr σ (46 + m.toNatClampNeg) 13 (σ (46 + m.toNatClampNeg) 13 + 1) (46 + m.toNatClampNeg) 13).toInt
    rw [rx_wr_eq]
    omega
  · rw [if_neg h1, if_neg h1, hm0]
    have e84 : rx_wr τ 84 m.toNatClampNeg (σ (46 + m.toNatClampNeg) 13) = τ := by rw [a11, rx_wr_self]
    rw [e84, ← a11]
    refine RS_to (kd := 6) (tg := 4) (m := m) (nu := σ (46 + m.toNatClampNeg) 13) (nw := 0) h ⟨hm, z60, Or.inr (Or.inr (Or.inr (Or.inr (Or.inr ⟨rfl, rfl, ?_⟩))))⟩ (by decide)
    show (σ (46 + m.toNatClampNeg) 13).toInt ≤ (σ (46 + m.toNatClampNeg) 13).toInt
    omega
theorem RS_ack {J : Nat} {T : Int} {σ τ : rMem} {m : Int32} (hm : rx_iM m) (he : m_eq (σ 44) (τ 73)) (hm3 : σ 44 3 = m) (hk : σ 44 0 = 6) (hnu : (σ 44 4).toInt ≤ (σ (46 + m.toNatClampNeg) 13).toInt) (h : RR J T σ τ) : RS J T σ τ (sp_Corr_receive σ 44) (sp_Mod_ack τ m) := by
  have hn := rx_j2 hm
  obtain ⟨e0, e1, e2, e4, e5, e6, e7, e8, -⟩ := he
  obtain ⟨-, -, ⟨k1, k2, k3, k4⟩, hr⟩ := h.2.2.2.1 _ hn
  have hrc := hr.2.1
  have hcn := hr.1
  unfold sp_Corr_receive sp_Mod_ack
  dsimp only
  rw [if_pos hk, hm3, j_4, ← k3, ← e4]
  by_cases h1 : σ 44 4 ≤ σ 69 m.toNatClampNeg
  · rw [if_pos h1, if_neg (by rw [rx_leI] at h1; rw [rx_ltI]; omega)]
    exact RS_id h
  · rw [if_neg h1, if_pos (by rw [rx_leI] at h1; rw [rx_ltI]; omega), rx_wr_ne (a := 1) (by omega), rx_wr_ne (a := 71) (by omega), ← h.1.2.2.2.2]
    rw [rx_leI] at h1
    have R1 : RR J T (rx_wr (rx_wr σ 69 m.toNatClampNeg (σ 44 4)) 70 m.toNatClampNeg (σ 1 2)) (rx_wr (rx_wr τ 94 m.toNatClampNeg (σ 44 4)) 95 m.toNatClampNeg (σ 1 2)) := by
      refine RR_cor (n := m.toNatClampNeg) h (fun c hc => ?_) (fun c k hk => ?_) (fun c hc => ?_) (fun c k hk => ?_) ?_ ?_ ?_
      · rw [rx_wr_ne (by omega), rx_wr_ne (by omega)]
      · rw [rx_wr_sl hk, rx_wr_sl hk]
      · rw [rx_wr_ne (by omega), rx_wr_ne (by omega)]
      · rw [rx_wr_sl hk, rx_wr_sl hk]
      · unfold r_corr
        simp (disch := omega) only [rx_wr_ne, rx_wr_eq]
        exact ⟨k1, k2, trivial, trivial⟩
      · simp (disch := omega) only [rx_wr_ne, rx_wr_eq]
        omega
      · simp (disch := omega) only [rx_wr_ne]
        omega
    refine RS_tr ⟨R1, fun c hc => ?_, fun c hc => ?_⟩ (RS_pumps hm R1).1
    · rw [rx_wr_ne (by omega), rx_wr_ne (by omega)]
    · rw [rx_wr_ne (by omega), rx_wr_ne (by omega)]
theorem bd_iff {J : Nat} {T : Int} {σ τ : rMem} {m : Int32} (hm : rx_iM m) (h : RR J T σ τ) : rv_Home_isBound σ m = (if τ 88 m.toNatClampNeg ≤ τ 71 3 then 0 else 1 : Int32) := by
  obtain ⟨-, -, -, hb⟩ := (h.2.2.2.1 _ (rx_j2 hm)).2.1
  unfold rv_Home_isBound
  rw [← h.1.2.2.2.2]
  rcases hb with hb | hb
  · rw [← hb]
  · rw [if_pos (rx_leI.mpr hb.1), if_pos (rx_leI.mpr hb.2)]
theorem RS_dataHome {J : Nat} {T : Int} {σ τ : rMem} {m : Int32} (hm : rx_iM m) (he : m_eq (σ 44) (τ 73)) (hnu : (σ 44 4).toInt ≤ (σ 68 m.toNatClampNeg).toInt) (h : RR J T σ τ) : RS J T σ τ (sp_Home_takeData σ m (σ 44 4)) (sp_Mod_dataAtHome τ m) := by
  have hn := rx_j2 hm
  have e5 : (5 : Int32).toInt = 5 := rfl
  obtain ⟨e0, e1, e2, e4, -⟩ := he
  obtain ⟨-, ⟨-, -, b3, -⟩, -, hr⟩ := h.2.2.2.1 _ hn
  have hb := bd_iff hm h
  unfold sp_Home_takeData sp_Mod_dataAtHome
  dsimp only
  rw [j_4, ← hb, ← e4, ← b3]
  by_cases h1 : rv_Home_isBound σ m = 0
  · rw [if_pos h1, if_pos h1, if_pos h1]
    exact RS_in h ⟨hm, z60, Or.inr (Or.inr (Or.inr (Or.inl ⟨rfl, Or.inr rfl, hnu⟩)))⟩
  · rw [if_neg h1, if_neg h1, if_neg h1]
    have hco := hr.2.2.2.2.2
    refine RS_to h ⟨hm, z60, Or.inr (Or.inr (Or.inr (Or.inr (Or.inl ⟨rfl, hco, hnu⟩))))⟩ (fun z => ?_)
    rw [z] at hco
    omega
