/-! adverts -/
def advC (σ : rMem) (a m : Int32) : rMem := if σ (46 + m.toNatClampNeg) 4 = a then (sp_Wire_sendInNetwork σ a 1 m a).1 else σ
def stA (a m : Int32) (τ : rMem) : rMem := if τ 71 3 - τ 71 3 / 4 * 4 = 0 then (if τ 74 m.toNatClampNeg = a then sp_Mod_send τ 1 5 m a a 0 0 0 0 else τ) else τ
theorem ad_eq {σ : rMem} {a : Int32} : sp_Net_advertise σ a = advC (advC σ a 0) a 1 := by
  unfold sp_Net_advertise
  by_cases h : σ (46 + Int32.toNatClampNeg 0) 4 = a
  · rw [if_pos h, show advC σ a 0 = (sp_Wire_sendInNetwork σ a 1 0 a).1 from if_pos h]
    rfl
  · rw [if_neg h, show advC σ a 0 = σ from if_neg h]
    rfl
/-- what lies between the clock's step and a tick's end -/
def tf (σ σ' : rMem) : Prop := (∀ c, c = 46 ∨ c = 47 → σ' c = σ c) ∧ σ' 1 2 = σ 1 2
theorem tf_tr {σ σ' σ'' : rMem} (h1 : tf σ σ') (h2 : tf σ' σ'') : tf σ σ'' := ⟨fun c hc => (h2.1 c hc).trans (h1.1 c hc), h2.2.trans h1.2⟩
theorem RS_adv1 {J : Nat} {T : Int} {σ τ : rMem} {a m : Int32} (hm : rx_iM m) (ha : 0 ≤ a.toInt ∧ a.toInt ≤ 3) (hc : σ 1 2 - σ 1 2 / 4 * 4 = 0) (h : RR J T σ τ) : RS J T σ τ (advC σ a m) (stA a m τ) ∧ tf σ (advC σ a m) := by
  have hn := rx_j2 hm
  have a2 := (h.2.2.2.1 _ hn).1.2.1
  unfold advC stA
  rw [← h.1.2.2.2.2, if_pos hc, ← a2]
  by_cases h1 : σ (46 + m.toNatClampNeg) 4 = a
  · rw [if_pos h1, if_pos h1]
    have hC := sc_sendIn h.1 (nw := a) (kd := 1) (mo := m) (nu := a)
    refine ⟨RS_in h ⟨hm, z60, Or.inl ⟨rfl, rfl, ha⟩⟩, fun c hc => hC.1 c (by omega) (by omega), hC.2.1 2 (by omega)⟩
  · rw [if_neg h1, if_neg h1]
    exact ⟨RS_id h, fun _ _ => rfl, rfl⟩
theorem iM0 : rx_iM 0 := ⟨by decide, by decide⟩
theorem iM1 : rx_iM 1 := ⟨by decide, by decide⟩
theorem RS_adv2 {J : Nat} {T : Int} {σ τ : rMem} {a : Int32} (ha : 0 ≤ a.toInt ∧ a.toInt ≤ 3) (hc : σ 1 2 - σ 1 2 / 4 * 4 = 0) (h : RR J T σ τ) : RS J T σ τ (sp_Net_advertise σ a) (stA a 1 (stA a 0 τ)) ∧ tf σ (sp_Net_advertise σ a) := by
  rw [ad_eq]
  obtain ⟨S1, t1⟩ := RS_adv1 iM0 ha hc h
  obtain ⟨S2, t2⟩ := RS_adv1 iM1 ha (by rw [t1.2]; exact hc) S1.1
  exact ⟨RS_tr S1 S2, tf_tr t1 t2⟩
def ptC (σ : rMem) : rMem := sp_Corr_resendIfDue (sp_Corr_resendIfDue (sp_Mob_notice (sp_Mob_notice σ (Int32.toNatClampNeg 0)) (Int32.toNatClampNeg 1)) 0) 1
def ptM (τ : rMem) : rMem := or_Mod 1 (or_Mod 0 (sp_Mod_tickMobile (sp_Mod_tickMobile τ 0) 1))
def adM (τ : rMem) : rMem := stA 3 1 (stA 3 0 (stA 2 1 (stA 2 0 (stA 1 1 (stA 1 0 (stA 0 1 (stA 0 0 τ)))))))
theorem adM_no {τ : rMem} (h : ¬ τ 71 3 - τ 71 3 / 4 * 4 = 0) : adM τ = τ := by
  have e : ∀ a m, stA a m τ = τ := fun a m => if_neg h
  unfold adM
  simp only [e]
theorem ot_eq {τ : rMem} : sp_Mod_oneTick τ = ptM (adM (rx_wr τ 71 3 (τ 71 3 + 1))) := rfl
theorem RS_pt {J : Nat} {T : Int} {σ τ : rMem} (h0 : (σ 46 5).toInt + 1 ≤ (σ 1 2).toInt + J) (h1 : (σ 47 5).toInt + 1 ≤ (σ 1 2).toInt + J) (hT : T + J ≤ 100000) (h : RR J T σ τ) : RS J T σ τ (ptC σ) (ptM τ) := by
  obtain ⟨S1, f1, c1⟩ := RS_notice (m := 0) iM0 h0 hT h
  have f47 : sp_Mob_notice σ (Int32.toNatClampNeg 0) 47 = σ 47 := f1 47 (by decide) (by omega)
  obtain ⟨S2, f2, c2⟩ := RS_notice (m := 1) iM1 (by show (sp_Mob_notice σ (Int32.toNatClampNeg 0) 47 5).toInt + 1 ≤ _; rw [f47, c1]; exact h1) hT S1.1
  obtain ⟨S3, f3, c3⟩ := RS_resend (m := 0) iM0 S2.1
  obtain ⟨S4, f4, c4⟩ := RS_resend (m := 1) iM1 S3.1
  exact RS_tr (RS_tr (RS_tr S1 S2) S3) S4
theorem RR_clock {J : Nat} {T : Int} {σ τ : rMem} (hT : T ≤ 100000) (h : RR J T σ τ) : RR J (T + 1) (rx_wr σ 1 2 (σ 1 2 + 1)) (rx_wr τ 71 3 (τ 71 3 + 1)) := by
  have hrow := fun (k : Nat) (hk : k < 41) => RR_rows h hk
  obtain ⟨gw, gc, gk, gm, gf, gg⟩ := h
  obtain ⟨w1, w2, w3, w4, w5⟩ := gw
  have ei : (σ 1 2 + 1).toInt = (σ 1 2).toInt + 1 := by rw [rx_addI (by rw [rx_I1]; omega) (by rw [rx_I1]; omega), rx_I1]
  rw [← w5]
  have e11 : rx_wr σ 1 2 (σ 1 2 + 1) 1 1 = σ 1 1 := rx_wr_sl (by omega)
  have e12 : rx_wr σ 1 2 (σ 1 2 + 1) 1 2 = σ 1 2 + 1 := rx_wr_eq
  have c1 : ∀ c, c ≠ 1 → rx_wr σ 1 2 (σ 1 2 + 1) c = σ c := fun c hc => rx_wr_ne hc
  have t1 : ∀ c, c ≠ 71 → rx_wr τ 71 3 (σ 1 2 + 1) c = τ c := fun c hc => rx_wr_ne hc
  have t2 : ∀ k, k ≠ 3 → rx_wr τ 71 3 (σ 1 2 + 1) 71 k = τ 71 k := fun k hk => rx_wr_sl hk
  have t3 : rx_wr τ 71 3 (σ 1 2 + 1) 71 3 = σ 1 2 + 1 := rx_wr_eq
  generalize rx_wr σ 1 2 (σ 1 2 + 1) = σ' at *
  generalize rx_wr τ 71 3 (σ 1 2 + 1) = τ' at *
  refine ⟨⟨by rw [e11]; exact w1, by rw [c1 2 (by omega)]; exact w2, by rw [c1 2 (by omega)]; exact w3, by rw [e11, t2 4 (by omega)]; exact w4, by rw [e12, t3]⟩, by rw [e12, ei]; omega, ?_, fun m hm => ?_, fun a ha m hm => ?_, fun k hk => ?_⟩
  · unfold r_const at gk ⊢
    rw [t2 0 (by omega), t2 1 (by omega), t2 2 (by omega), c1 48 (by omega)]
    exact ⟨fun m hm2 => by rw [c1 (46 + m) (by omega)]; exact gk.1 m hm2, gk.2.1, fun a ha => by rw [c1 (54 + 4 * a) (by omega)]; exact gk.2.2.1 a ha, gk.2.2.2⟩
  · have q := gm m hm
    unfold r_mob r_home r_corr r_rng at q ⊢
    rw [e12, ei, c1 (46 + m) (by omega), c1 49 (by omega), c1 50 (by omega), c1 51 (by omega), c1 52 (by omega), c1 67 (by omega), c1 68 (by omega), c1 69 (by omega), c1 70 (by omega), t1 74 (by omega), t1 75 (by omega), t1 76 (by omega), t1 77 (by omega), t1 78 (by omega), t1 79 (by omega), t1 80 (by omega), t1 81 (by omega), t1 82 (by omega), t1 83 (by omega), t1 84 (by omega), t1 85 (by omega), t1 86 (by omega), t1 87 (by omega), t1 88 (by omega), t1 92 (by omega), t1 93 (by omega), t1 94 (by omega), t1 95 (by omega)]
    obtain ⟨q1, ⟨x1, x2, x3, x4⟩, q3, y1, y2, y3, y4⟩ := q
    refine ⟨q1, ⟨x1, x2, x3, ?_⟩, q3, y1, y2, ⟨y3.1, by omega⟩, y4⟩
    rcases x4 with x | x
    · exact Or.inl x
    · exact Or.inr ⟨by omega, by omega⟩
  · have q := gf a ha m hm
    unfold r_fa at q ⊢
    rw [e12, ei, c1 (54 + 4 * a + 1) (by omega), c1 (54 + 4 * a + 2) (by omega), c1 (54 + 4 * a + 3) (by omega), t1 89 (by omega), t1 90 (by omega), t1 91 (by omega)]
    exact ⟨q.1, q.2.1, by omega⟩
  · rw [e11] at hk
    have q := gg k hk
    have hr := hrow k (by omega)
    have f1 : mq σ' k = mq σ k := by unfold mq; rw [c1 2 (by omega)]
    have f2 : σ' (mq σ k) = σ (mq σ k) := c1 _ (by unfold mq; omega)
    have f3 : mrow τ' k = mrow τ k := by funext f; show τ' 72 _ = τ 72 _; rw [t1 72 (by omega)]
    unfold r_msg at q ⊢
    rw [f1, f2, f3]
    refine ⟨?_, q.2⟩
    have q1 := q.1
    have hu1 := rx_j2 q1.1
    unfold m_ok at q1 ⊢
    rw [c1 68 (by omega), c1 (46 + (σ (mq σ k) 3).toNatClampNeg) (by omega)]
    exact q1
theorem RS_one {J : Nat} {T : Int} {σ τ : rMem} (hT : T + 1 + J ≤ 100000) (h : RR J T σ τ) : RS J (T + 1) σ τ (sp_Net_passOneTick σ) (sp_Mod_oneTick τ) := by
  have hq0 := (h.2.2.2.1 0 (by omega)).2.2.2.2.2.1
  have hq1 := (h.2.2.2.1 1 (by omega)).2.2.2.2.2.1
  have hc := h.2.1
  have ei : (σ 1 2 + 1).toInt = (σ 1 2).toInt + 1 := by rw [rx_addI (by rw [rx_I1]; omega) (by rw [rx_I1]; omega), rx_I1]
  have R1 := RR_clock (by omega) h
  have S1 : RS J (T + 1) σ τ (rx_wr σ 1 2 (σ 1 2 + 1)) (rx_wr τ 71 3 (τ 71 3 + 1)) := ⟨R1, fun c hc => rx_wr_ne (by omega), fun c hc => rx_wr_ne (by omega)⟩
  have e46 : rx_wr σ 1 2 (σ 1 2 + 1) 46 = σ 46 := rx_wr_ne (by omega)
  have e47 : rx_wr σ 1 2 (σ 1 2 + 1) 47 = σ 47 := rx_wr_ne (by omega)
  have e12 : rx_wr σ 1 2 (σ 1 2 + 1) 1 2 = σ 1 2 + 1 := rx_wr_eq
  rw [ot_eq]
  have eC : sp_Net_passOneTick σ = if rx_wr σ 1 2 (σ 1 2 + 1) 1 2 - rx_wr σ 1 2 (σ 1 2 + 1) 1 2 / 4 * 4 = 0 then ptC (sp_Net_advertise (sp_Net_advertise (sp_Net_advertise (sp_Net_advertise (rx_wr σ 1 2 (σ 1 2 + 1)) 0) 1) 2) 3) else ptC (rx_wr σ 1 2 (σ 1 2 + 1)) := rfl
  rw [eC]
  generalize rx_wr σ 1 2 (σ 1 2 + 1) = σ1 at *
  generalize rx_wr τ 71 3 (τ 71 3 + 1) = τ1 at *
  have g0 : (σ1 46 5).toInt + 1 ≤ (σ1 1 2).toInt + J := by
    rw [e46, e12, ei]
    have := hq0.2
    have e : (46 : Nat) + 0 = 46 := rfl
    rw [e] at this
    omega
  have g1 : (σ1 47 5).toInt + 1 ≤ (σ1 1 2).toInt + J := by
    rw [e47, e12, ei]
    have := hq1.2
    have e : (46 : Nat) + 1 = 47 := rfl
    rw [e] at this
    omega
  by_cases hz : σ1 1 2 - σ1 1 2 / 4 * 4 = 0
  · rw [if_pos hz]
    obtain ⟨A0, t0⟩ := RS_adv2 (a := 0) (by decide) hz R1
    obtain ⟨A1, t1⟩ := RS_adv2 (a := 1) (by decide) (by rw [t0.2]; exact hz) A0.1
    have t01 := tf_tr t0 t1
    obtain ⟨A2, t2⟩ := RS_adv2 (a := 2) (by decide) (by rw [t01.2]; exact hz) A1.1
    have t02 := tf_tr t01 t2
    obtain ⟨A3, t3⟩ := RS_adv2 (a := 3) (by decide) (by rw [t02.2]; exact hz) A2.1
    have t03 := tf_tr t02 t3
    have A := RS_tr (RS_tr (RS_tr A0 A1) A2) A3
    refine RS_tr (RS_tr S1 A) (RS_pt ?_ ?_ hT A.1)
    · rw [t03.1 46 (Or.inl rfl), t03.2]
      exact g0
    · rw [t03.1 47 (Or.inr rfl), t03.2]
      exact g1
  · rw [if_neg hz, adM_no (by rw [← R1.1.2.2.2.2]; exact hz)]
    exact RS_tr S1 (RS_pt g0 g1 hT R1)
theorem RS_ticks {J : Nat} : ∀ (n : Nat) {T : Int} {σ τ : rMem}, T + n + J ≤ 100000 → RR J T σ τ → RS J (T + n) σ τ (it_n sp_Net_passOneTick n σ) (it_n sp_Mod_oneTick n τ) := by
  intro n
  induction n with
  | zero =>
    intro T σ τ hT h
    exact ⟨RR_up (Nat.le_refl _) (by omega) h, fun _ _ => rfl, fun _ _ => rfl⟩
  | succ n ih =>
    intro T σ τ hT h
    have S1 := RS_one (J := J) (T := T) (by omega) h
    have S2 := ih (T := T + 1) (by omega) S1.1
    have e : T + 1 + (n : Int) = T + ((n + 1 : Nat) : Int) := by omega
    rw [e] at S2
    exact RS_tr S1 S2
theorem ok_15 : ok_tick sR := by
  intro j σ x h hj
  have e20 : (20 : Int32).toInt = 20 := rfl
  by_cases hx : 1 ≤ x.toInt ∧ x.toInt ≤ 20
  · have a1 : ∀ σ, sp_Net_tick σ x = (it_n sp_Net_passOneTick x.toNatClampNeg σ, 1) := by
      intro σ
      unfold sp_Net_tick
      rw [if_neg (in_yes (by rw [rx_I1, e20]; exact hx))]
    have a2 : ∀ σ, sp_Mod_tick σ x = (it_n sp_Mod_oneTick x.toNatClampNeg σ, 1) := by
      intro σ
      unfold sp_Mod_tick
      rw [if_neg (by rw [rx_ltI, rx_I1]; omega), if_pos (by rw [rx_leI, e20]; omega)]
    have hcn := rx_cn (x := x) (by omega)
    have S0 := RS_ticks x.toNatClampNeg (by omega) h
    rw [a1]
    generalize hσ : it_n sp_Net_passOneTick x.toNatClampNeg σ = σ' at S0
    show _ = (sp_Mod_tick σ' x).2 ∧ sR (j + 1) (sp_Mod_tick σ' x).1
    rw [a2]
    refine ⟨rfl, RS_sR h S0.2.1 (fun q => ?_)⟩
    have S1 := RS_ticks x.toNatClampNeg (by omega) q
    rw [hσ] at S1
    exact ⟨RR_up (by omega) (by omega) S1.1, S0.2.1, S1.2.2⟩
  · have a1 : sp_Net_tick σ x = (σ, 0) := by
      unfold sp_Net_tick
      rw [if_pos (in_no (by rw [rx_I1, e20]; exact hx))]
    have a2 : sp_Mod_tick σ x = (σ, 0) := by
      unfold sp_Mod_tick
      by_cases h1 : x < 1
      · rw [if_pos h1]
      · rw [if_neg h1, if_neg ?_]
        rw [rx_ltI, rx_I1] at h1
        rw [rx_leI, e20]
        omega
    rw [a1]
    show _ = (sp_Mod_tick σ x).2 ∧ sR (j + 1) (sp_Mod_tick σ x).1
    rw [a2]
    exact ⟨rfl, sR_same h⟩
