/-! registering -/
theorem nI_m {m : Int32} (hm : rx_iM m) : nI m.toNatClampNeg = m := by
  rcases im_or hm with rfl | rfl <;> rfl
theorem sc_on {σ τ σ' : rMem} {v : Nat → Int32} (hw : r_wire σ τ) (h : ∀ c, c ≠ (sp_Wire_nextRow σ).2 → σ' c = (sp_Wire_nextRow σ).1 c) (hv : ∀ f, f < 9 → σ' (sp_Wire_nextRow σ).2 f = v f) : sentC σ σ' v := sentC_ext hv (sc_any hw h)
def rgF (σ : rMem) (j : Nat) (a m nu lt : Int32) : rMem := rx_wr (rx_wr (rx_wr (sp_Wire_sendTo σ a 2 m nu).1 (sp_Wire_sendTo σ a 2 m nu).2 5 a) (sp_Wire_sendTo σ a 2 m nu).2 7 lt) (sp_Wire_sendTo σ a 2 m nu).2 8 (rv_Msg_requestSeal (rx_wr (rx_wr (sp_Wire_sendTo σ a 2 m nu).1 (sp_Wire_sendTo σ a 2 m nu).2 5 a) (sp_Wire_sendTo σ a 2 m nu).2 7 lt) (sp_Wire_sendTo σ a 2 m nu).2 (rx_wr (rx_wr (sp_Wire_sendTo σ a 2 m nu).1 (sp_Wire_sendTo σ a 2 m nu).2 5 a) (sp_Wire_sendTo σ a 2 m nu).2 7 lt (46 + j) 3))
def rgE (σ : rMem) (j : Nat) (a : Int32) : rMem := rx_wr (rx_wr (rx_wr σ (46 + j) 10 (σ (46 + j) 5)) (46 + j) 11 a) (46 + j) 12 (rx_wr (rx_wr σ (46 + j) 10 (σ (46 + j) 5)) (46 + j) 11 a 1 2)
theorem sd_2 {σ : rMem} {tg kd mo nu : Int32} : (sp_Wire_sendTo σ tg kd mo nu).2 = (sp_Wire_nextRow σ).2 := rfl
theorem sd_ne {σ : rMem} {tg kd mo nu : Int32} {c : Nat} (h : c ≠ (sp_Wire_nextRow σ).2) : (sp_Wire_sendTo σ tg kd mo nu).1 c = (sp_Wire_nextRow σ).1 c := fr_begin h
theorem sd_at {σ : rMem} {tg kd mo nu : Int32} {f : Nat} (hf : f < 9) : (sp_Wire_sendTo σ tg kd mo nu).1 (sp_Wire_nextRow σ).2 f = vT kd tg (-1) mo nu 0 0 0 0 f := bg_at hf
theorem sc_rgF {σ τ : rMem} (hw : r_wire σ τ) {j : Nat} {a m nu lt : Int32} : sentC σ (rgF σ j a m nu lt) (vT 2 a (-1) m nu a 0 lt (rv_Mod_requestSeal (σ (46 + j) 3) m a lt nu)) := by
  have hq := nq_in hw
  have e46 : rx_wr (rx_wr (sp_Wire_sendTo σ a 2 m nu).1 (sp_Wire_sendTo σ a 2 m nu).2 5 a) (sp_Wire_sendTo σ a 2 m nu).2 7 lt (46 + j) 3 = σ (46 + j) 3 := by
    rw [sd_2, rx_wr_ne (by omega), rx_wr_ne (by omega), sd_ne (by omega), fr_nextRow (by omega)]
  have es : rv_Msg_requestSeal (rx_wr (rx_wr (sp_Wire_sendTo σ a 2 m nu).1 (sp_Wire_sendTo σ a 2 m nu).2 5 a) (sp_Wire_sendTo σ a 2 m nu).2 7 lt) (sp_Wire_sendTo σ a 2 m nu).2 (σ (46 + j) 3) = rv_Mod_requestSeal (σ (46 + j) 3) m a lt nu := by
    unfold rv_Msg_requestSeal
    rw [sd_2]
    simp only [rx_wr_at, sd_at (show (3 : Nat) < 9 by omega), sd_at (show (4 : Nat) < 9 by omega)]
    simp [vT]
    rfl
  refine sc_on hw (fun c hc => ?_) (fun f hf => ?_)
  · unfold rgF
    rw [sd_2, rx_wr_ne hc, rx_wr_ne hc, rx_wr_ne hc, sd_ne hc]
  · unfold rgF
    rw [e46, es, sd_2]
    simp only [rx_wr_at, sd_at hf]
    match f, hf with
    | 0, _ => simp [vT]
    | 1, _ => simp [vT]
    | 2, _ => simp [vT]
    | 3, _ => simp [vT]
    | 4, _ => simp [vT]
    | 5, _ => simp [vT]
    | 6, _ => simp [vT]
    | 7, _ => simp [vT]
    | 8, _ => simp [vT]
    | f + 9, hf => omega
theorem rg_eq {σ τ : rMem} {j : Nat} {a : Int32} (hw : r_wire (rx_wr σ (46 + j) 5 (σ (46 + j) 5 + 1)) τ) : sp_Mob_registerWith σ j a = rgE (rgF (rx_wr σ (46 + j) 5 (σ (46 + j) 5 + 1)) j a (σ (46 + j) 0) (σ (46 + j) 5 + 1) (if a = 0 then 0 else σ (46 + j) 1)) j a := by
  have e0 : rx_wr σ (46 + j) 5 (σ (46 + j) 5 + 1) (46 + j) 0 = σ (46 + j) 0 := rx_wr_sl (by omega)
  have e5 : rx_wr σ (46 + j) 5 (σ (46 + j) 5 + 1) (46 + j) 5 = σ (46 + j) 5 + 1 := rx_wr_eq
  have e1 : rx_wr σ (46 + j) 5 (σ (46 + j) 5 + 1) (46 + j) 1 = σ (46 + j) 1 := rx_wr_sl (by omega)
  have hq := nq_in hw
  unfold sp_Mob_registerWith
  dsimp only
  rw [e0, e5]
  generalize rx_wr σ (46 + j) 5 (σ (46 + j) 5 + 1) = σ1 at *
  by_cases ha : a = 0
  · rw [if_pos ha, if_pos ha]
    rfl
  · rw [if_neg ha, if_neg ha]
    have el : rx_wr (sp_Wire_sendTo σ1 a 2 (σ (46 + j) 0) (σ (46 + j) 5 + 1)).1 (sp_Wire_sendTo σ1 a 2 (σ (46 + j) 0) (σ (46 + j) 5 + 1)).2 5 a (46 + j) 1 = σ (46 + j) 1 := by
      rw [sd_2, rx_wr_ne (by omega), sd_ne (by omega), fr_nextRow (by omega), e1]
    rw [el]
    rfl
theorem RS_register {J J' : Nat} {T : Int} {σ τ : rMem} {m a : Int32} (hm : rx_iM m) (ha : 0 ≤ a.toInt ∧ a.toInt ≤ 3) (hJ : J ≤ J') (hb : (σ (46 + m.toNatClampNeg) 5).toInt + 1 ≤ (σ 1 2).toInt + J') (hT : T + J' ≤ 100000) (h : RR J T σ τ) : RS J' T σ τ (sp_Mob_registerWith σ m.toNatClampNeg a) (sp_Mod_register τ m a) ∧ (∀ c, c ≠ 46 + m.toNatClampNeg → 44 ≤ c → sp_Mob_registerWith σ m.toNatClampNeg a c = σ c) ∧ sp_Mob_registerWith σ m.toNatClampNeg a 1 2 = σ 1 2 := by
  have hn := rx_j2 hm
  have hq := h.2.2.2.1 _ hn
  obtain ⟨⟨a1, a2, a3, a4, a5, a6, a7, a8, a9, a10, a11⟩, -, -, hr⟩ := hq
  have hk := h.2.2.1
  have hclk := h.2.1
  have hid := hr.2.2.1
  have ei : (σ (46 + m.toNatClampNeg) 5 + 1).toInt = (σ (46 + m.toNatClampNeg) 5).toInt + 1 := by rw [rx_addI (by rw [rx_I1]; omega) (by rw [rx_I1]; omega), rx_I1]
  have hm0 : σ (46 + m.toNatClampNeg) 0 = m := by rw [(hk.1 _ hn).1, nI_m hm]
  have hl : σ (46 + m.toNatClampNeg) 1 = τ 71 0 := (hk.1 _ hn).2
  have hlr := hk.2.2.2.1
  have R1 : RR J' T (rx_wr σ (46 + m.toNatClampNeg) 5 (σ (46 + m.toNatClampNeg) 5 + 1)) (rx_wr τ 76 m.toNatClampNeg (τ 76 m.toNatClampNeg + 1)) := by
    refine RR_mob hn h hJ (fun c hc => rx_wr_ne hc) ⟨rx_wr_sl (by omega), rx_wr_sl (by omega)⟩ (fun c hc => rx_wr_ne (by omega)) (fun c k hk => rx_wr_sl hk) ?_ ?_ ?_
    · unfold r_mob
      simp (disch := omega) only [rx_wr_sl, rx_wr_ne, rx_wr_eq]
      rw [a3]
      exact ⟨a1, a2, rfl, a4, a5, a6, a7, a8, a9, a10, a11⟩
    · unfold r_rng at hr ⊢
      simp (disch := omega) only [rx_wr_sl, rx_wr_ne, rx_wr_eq]
      rw [ei]
      refine ⟨hr.1, hr.2.1, ⟨by omega, by omega⟩, hr.2.2.2⟩
    · rw [rx_wr_sl (by omega)]
      omega
  have S0 : RS J' T σ τ (rx_wr σ (46 + m.toNatClampNeg) 5 (σ (46 + m.toNatClampNeg) 5 + 1)) (rx_wr τ 76 m.toNatClampNeg (τ 76 m.toNatClampNeg + 1)) := ⟨R1, fun c hc => rx_wr_ne (by omega), fun c hc => rx_wr_ne (by omega)⟩
  rw [rg_eq R1.1, hm0, hl]
  have eM : sp_Mod_register τ m a = (let m2 := sp_Mod_send (rx_wr τ 76 m.toNatClampNeg (τ 76 m.toNatClampNeg + 1)) 2 a m 0 (σ (46 + m.toNatClampNeg) 5 + 1) a (if a = 0 then 0 else τ 71 0) 0 (rv_Mod_requestSeal (σ (46 + m.toNatClampNeg) 3) m a (if a = 0 then 0 else τ 71 0) (σ (46 + m.toNatClampNeg) 5 + 1)); rx_wr (rx_wr (rx_wr m2 81 m.toNatClampNeg (m2 76 m.toNatClampNeg)) 82 m.toNatClampNeg a) 83 m.toNatClampNeg (m2 71 3)) := by
    unfold sp_Mod_register
    dsimp only
    rw [rx_wr_eq, rx_wr_ne (a := 71) (by omega), rx_wr_ne (a := 75) (by omega), ← a3, ← a1]
    rw [rx_wr_ne (a := 71) (by omega), rx_wr_ne (a := 71) (by omega)]
  rw [eM]
  dsimp only
  have k1 : rx_wr σ (46 + m.toNatClampNeg) 5 (σ (46 + m.toNatClampNeg) 5 + 1) (46 + m.toNatClampNeg) 3 = σ (46 + m.toNatClampNeg) 3 := rx_wr_sl (by omega)
  have k2 : rx_wr σ (46 + m.toNatClampNeg) 5 (σ (46 + m.toNatClampNeg) 5 + 1) (46 + m.toNatClampNeg) 5 = σ (46 + m.toNatClampNeg) 5 + 1 := rx_wr_eq
  have k3 : rx_wr τ 76 m.toNatClampNeg (τ 76 m.toNatClampNeg + 1) 76 m.toNatClampNeg = σ (46 + m.toNatClampNeg) 5 + 1 := by rw [rx_wr_eq, a3]
  have k4 : ∀ c, c ≠ 46 + m.toNatClampNeg → rx_wr σ (46 + m.toNatClampNeg) 5 (σ (46 + m.toNatClampNeg) 5 + 1) c = σ c := fun c hc => rx_wr_ne hc
  generalize rx_wr σ (46 + m.toNatClampNeg) 5 (σ (46 + m.toNatClampNeg) 5 + 1) = σ1 at *
  generalize rx_wr τ 76 m.toNatClampNeg (τ 76 m.toNatClampNeg + 1) = τ1 at *
  generalize hlt : (if a = 0 then 0 else τ 71 0 : Int32) = lt
  have hlt60 : 0 ≤ lt.toInt ∧ lt.toInt ≤ 60 := by
    rw [← hlt]
    split
    · decide
    · omega
  have hC := sc_rgF R1.1 (j := m.toNatClampNeg) (a := a) (m := m) (nu := σ (46 + m.toNatClampNeg) 5 + 1) (lt := lt)
  rw [k1] at hC
  have S1 := RS_send R1 hC (sm_send (wire_many R1.1) (kd := 2) (tg := a) (m := m) (nw := 0) (nu := σ (46 + m.toNatClampNeg) 5 + 1) (co := a) (lt := lt) (cd := 0) (sl := rv_Mod_requestSeal (σ (46 + m.toNatClampNeg) 3) m a lt (σ (46 + m.toNatClampNeg) 5 + 1))) ⟨hm, hlt60, Or.inr (Or.inl ⟨rfl, ha, ha, rfl⟩)⟩ ⟨rfl, rfl, rfl, rfl, rfl, rfl, rfl, rfl, fun z => by
    have z2 : a.toInt = (5 : Int32).toInt := by rw [show a = 5 from z]
    have e5 : (5 : Int32).toInt = 5 := rfl
    omega⟩
  have S2 := RS_tr S0 S1
  have c5 : rgF σ1 m.toNatClampNeg a m (σ (46 + m.toNatClampNeg) 5 + 1) lt (46 + m.toNatClampNeg) 5 = σ (46 + m.toNatClampNeg) 5 + 1 := by rw [hC.1 _ (by omega) (by omega), k2]
  have cf := hC.1
  have cc := hC.2.1 2 (by omega)
  generalize rgF σ1 m.toNatClampNeg a m (σ (46 + m.toNatClampNeg) 5 + 1) lt = σ2 at *
  generalize sp_Mod_send τ1 2 a m 0 (σ (46 + m.toNatClampNeg) 5 + 1) a lt 0 (rv_Mod_requestSeal (σ (46 + m.toNatClampNeg) 3) m a lt (σ (46 + m.toNatClampNeg) 5 + 1)) = τ2 at *
  have R2 := S2.1
  obtain ⟨⟨b1, b2, b3, b4, b5, b6, b7, b8, b9, b10, b11⟩, -, -, br⟩ := R2.2.2.2.1 _ hn
  refine ⟨RS_tr S2 ⟨RR_mob hn R2 (Nat.le_refl _) (fun c hc => ?_) ?_ (fun c hc => ?_) (fun c k hk => ?_) ?_ ?_ ?_, fun c hc => ?_, fun c hc => ?_⟩, fun c h1 h2 => ?_, ?_⟩
  · unfold rgE
    rw [rx_wr_ne hc, rx_wr_ne hc, rx_wr_ne hc]
  · unfold rgE
    simp (disch := omega) only [rx_wr_sl]
    exact ⟨trivial, trivial⟩
  · rw [rx_wr_ne (by omega), rx_wr_ne (by omega), rx_wr_ne (by omega)]
  · rw [rx_wr_sl hk, rx_wr_sl hk, rx_wr_sl hk]
  · unfold r_mob rgE
    simp (disch := omega) only [rx_wr_sl, rx_wr_ne, rx_wr_eq]
    exact ⟨b1, b2, b3, b4, b5, b6, b7, b3, trivial, R2.1.2.2.2.2, b11⟩
  · unfold r_rng rgE at *
    simp (disch := omega) only [rx_wr_sl, rx_wr_ne, rx_wr_eq]
    exact ⟨br.1, br.2.1, br.2.2.1, br.2.2.1.1, ha, br.2.2.2.2.2⟩
  · unfold rgE
    simp (disch := omega) only [rx_wr_sl]
    omega
  · unfold rgE
    rw [rx_wr_ne (by omega), rx_wr_ne (by omega), rx_wr_ne (by omega)]
  · rw [rx_wr_ne (by omega), rx_wr_ne (by omega), rx_wr_ne (by omega)]
  · unfold rgE
    rw [rx_wr_ne h1, rx_wr_ne h1, rx_wr_ne h1, cf c (by omega) (by omega), k4 c h1]
  · unfold rgE
    rw [rx_wr_ne (by omega), rx_wr_ne (by omega), rx_wr_ne (by omega), cc, k4 1 (by omega)]
