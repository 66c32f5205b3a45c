theorem sc_copy {σ τ : rMem} (hw : r_wire σ τ) {r : Nat} (h1 : r ≠ 1) (hr : r ≠ (sp_Wire_nextRow σ).2) : sentC σ (sp_Msg_copyFrom (sp_Wire_nextRow σ).1 (sp_Wire_nextRow σ).2 r) (σ r) := by
  refine sentC_ext ?_ (sc_any (σ' := sp_Msg_copyFrom (sp_Wire_nextRow σ).1 (sp_Wire_nextRow σ).2 r) hw (fun c hc => cp_ne hc))
  intro f hf
  rw [cp_at hr hf, fr_nextRow h1]
theorem dup_C {σ : rMem} {i : Int32} (hi : 0 ≤ i.toInt ∧ i.toInt < (σ 1 1).toInt) (h40 : (σ 1 1).toInt < 40) : sp_Net_duplicate σ i = (sp_Msg_copyFrom (sp_Wire_nextRow σ).1 (sp_Wire_nextRow σ).2 (mq σ i.toNatClampNeg), 1) := by
  have hh : ¬ rv_Wire_holds σ i = 0 := by
    unfold rv_Wire_holds
    rw [if_neg (by rw [rx_ltI, rx_I0]; omega), if_neg (by rw [rx_leI]; omega)]
    decide
  unfold sp_Net_duplicate
  rw [if_neg hh, if_pos (full_iff.mpr h40)]
  show (sp_Msg_copyFrom (sp_Wire_nextRow σ).1 (sp_Wire_nextRow σ).2 (2 + ((sp_Wire_nextRow σ).1 2 i.toNatClampNeg).toNatClampNeg), (1 : Int32)) = _
  rw [fr_nextRow (by omega)]
theorem vW_row {τ : rMem} {k : Nat} : ∀ f, f < 9 → vW (mrow τ k 0) (mrow τ k 1) (mrow τ k 2) (mrow τ k 3) (mrow τ k 4) (mrow τ k 5) (mrow τ k 6) (mrow τ k 7) (mrow τ k 8) f = mrow τ k f := by
  intro f hf
  match f, hf with
  | 0, _ => rfl
  | 1, _ => rfl
  | 2, _ => rfl
  | 3, _ => rfl
  | 4, _ => rfl
  | 5, _ => rfl
  | 6, _ => rfl
  | 7, _ => rfl
  | 8, _ => rfl
  | f + 9, hf => omega
theorem ok_12 : ok_duplicate sR := by
  intro j σ i h hj
  have e := h.1.2.2.2.1
  by_cases hg : 0 ≤ i.toInt ∧ i.toInt < (σ 1 1).toInt
  · by_cases h40 : (σ 1 1).toInt < 40
    · have hw := h.1
      have hin := rx_cn (x := i) (by omega)
      have hsn := rx_cn (x := σ 1 1) (by omega)
      have hmi := mq_in hw (k := i.toNatClampNeg) (by omega)
      have hne : mq σ i.toNatClampNeg ≠ (sp_Wire_nextRow σ).2 := by
        rw [nr_not h40]
        intro e2
        have := mq_inj hw (by omega) (by omega) e2
        omega
      have hC := sc_copy hw (r := mq σ i.toNatClampNeg) (by omega) hne
      rw [dup_C hg h40]
      generalize hσ' : sp_Msg_copyFrom (sp_Wire_nextRow σ).1 (sp_Wire_nextRow σ).2 (mq σ i.toNatClampNeg) = σ' at hC
      have e71 : σ' 71 = σ 71 := hC.1 71 (by omega) (by omega)
      have hq : RR j (20 * j) σ σ' := RR_congr (fun _ _ => rfl) (fun c hc => hC.1 c (by omega) (by omega)) h
      show _ = (sp_Mod_duplicate σ' i).2 ∧ sR (j + 1) (sp_Mod_duplicate σ' i).1
      rw [dup_M (τ := σ') (by rw [e71, ← e]; exact hg) (by rw [e71, ← e]; exact h40)]
      have hM := sm_send (τ := σ') (wire_many hq.1) (kd := mrow σ' i.toNatClampNeg 0) (tg := mrow σ' i.toNatClampNeg 1) (m := mrow σ' i.toNatClampNeg 2) (nw := mrow σ' i.toNatClampNeg 3) (nu := mrow σ' i.toNatClampNeg 4) (co := mrow σ' i.toNatClampNeg 5) (lt := mrow σ' i.toNatClampNeg 6) (cd := mrow σ' i.toNatClampNeg 7) (sl := mrow σ' i.toNatClampNeg 8)
      obtain ⟨g1, g2⟩ := hq.2.2.2.2.2 i.toNatClampNeg (by omega)
      have h3 := RR_send hq hC hM g1 (m_eq_ext (fun _ _ => rfl) vW_row g2)
      refine ⟨rfl, ?_⟩
      have h4 := RR_congr (fun c hc => hM.1 c (by omega) (by omega)) (fun _ _ => rfl) h3
      unfold sR
      exact RR_up (by omega) (by omega) h4
    · have a1 : sp_Net_duplicate σ i = (σ, 0) := by
        unfold sp_Net_duplicate
        by_cases h1 : rv_Wire_holds σ i = 0
        · rw [if_pos h1]
        · rw [if_neg h1, if_neg (fun q => h40 (full_iff.mp q))]
      have a2 : sp_Mod_duplicate σ i = (σ, 0) := by
        unfold sp_Mod_duplicate
        by_cases h1 : rv_Mod_isMessage σ i = 0
        · rw [if_pos h1]
        · rw [if_neg h1, if_neg (by rw [rx_ltI, rx_I40, ← e]; exact h40)]
      rw [a1]
      show _ = (sp_Mod_duplicate σ i).2 ∧ sR (j + 1) (sp_Mod_duplicate σ i).1
      rw [a2]
      exact ⟨rfl, sR_same h⟩
  · have a1 : sp_Net_duplicate σ i = (σ, 0) := by
      unfold sp_Net_duplicate
      by_cases h1 : rv_Wire_holds σ i = 0
      · rw [if_pos h1]
      · exact absurd (rh_Wire h1) hg
    have a2 : sp_Mod_duplicate σ i = (σ, 0) := by
      unfold sp_Mod_duplicate
      by_cases h1 : rv_Mod_isMessage σ i = 0
      · rw [if_pos h1]
      · exact absurd (by have := rh_Mod h1; rw [← e] at this; exact this) hg
    rw [a1]
    show _ = (sp_Mod_duplicate σ i).2 ∧ sR (j + 1) (sp_Mod_duplicate σ i).1
    rw [a2]
    exact ⟨rfl, sR_same h⟩
/-! removing -/
def pi_r (i n t : Nat) : Nat := if t + 1 = n then i else if i ≤ t ∧ t + 1 < n then t + 1 else t
theorem pi_lt {i n t : Nat} (hi : i < n) (hn : n ≤ 40) (ht : t < 41) : pi_r i n t < 41 := by
  unfold pi_r
  split
  · omega
  · split <;> omega
def remC (σ σ' : rMem) (i n : Nat) : Prop := (∀ c, c ≠ 1 → c ≠ 2 → c ≠ 44 → σ' c = σ c) ∧ (∀ k, k ≠ 1 → σ' 1 k = σ 1 k) ∧ (σ' 1 1).toInt = (σ 1 1).toInt - 1 ∧ ∀ t, σ' 2 t = σ 2 (pi_r i n t)
def remM (τ τ' : rMem) (i n : Nat) : Prop := (∀ c, c ≠ 71 → c ≠ 72 → c ≠ 73 → τ' c = τ c) ∧ (∀ k, k ≠ 4 → τ' 71 k = τ 71 k) ∧ (τ' 71 4).toInt = (τ 71 4).toInt - 1 ∧ ∀ t, τ' 72 t = if 9 * i ≤ t ∧ t < 9 * (n - 1) then τ 72 (t + 9) else τ 72 t
theorem RR_rem {J : Nat} {T : Int} {σ σ' τ τ' : rMem} {i n : Nat} (h : RR J T σ τ) (hn : (n : Int) = (σ 1 1).toInt) (hi : i < n) (hC : remC σ σ' i n) (hM : remM τ τ' i n) : RR J T σ' τ' := by
  have hrow := fun (k : Nat) (hk : k < 41) => RR_rows h hk
  obtain ⟨gw, gc, gk, gm, gf, gg⟩ := h
  obtain ⟨c1, c2, c3, c4⟩ := hC
  obtain ⟨m1, m2, m3, m4⟩ := hM
  obtain ⟨w1, w2, w3, w4, w5⟩ := gw
  have e12 : σ' 1 2 = σ 1 2 := c2 2 (by omega)
  have s1 : (σ' 1 1).toInt = (τ' 71 4).toInt := by rw [c3, m3, w4]
  have hn40 : n ≤ 40 := by omega
  have ok' : ∀ u, m_ok σ u → m_ok σ' u := by
    intro u hu
    have hu1 := rx_j2 hu.1
    unfold m_ok at hu ⊢
    rw [c1 68 (by omega) (by omega) (by omega), c1 (46 + (u 3).toNatClampNeg) (by omega) (by omega) (by omega)]
    exact hu
  refine ⟨⟨?_, fun k hk => ?_, fun k k' hk hk' he => ?_, rx_eqI.mpr s1, ?_⟩, by rw [e12]; exact gc, ?_, fun m hm => ?_, fun a ha m hm => ?_, fun k hk => ?_⟩
  · rw [c3]
    omega
  · rw [c4]
    exact w2 _ (pi_lt hi hn40 hk)
  · rw [c4, c4] at he
    have := w3 (pi_r i n k) (pi_r i n k') (pi_lt hi hn40 hk) (pi_lt hi hn40 hk') he
    unfold pi_r at this
    grind
  · rw [e12, m2 3 (by omega)]
    exact w5
  · unfold r_const at gk ⊢
    rw [m2 0 (by omega), m2 1 (by omega), m2 2 (by omega), c1 48 (by omega) (by omega) (by omega)]
    exact ⟨fun m hm2 => by rw [c1 (46 + m) (by omega) (by omega) (by omega)]; exact gk.1 m hm2, gk.2.1, fun a ha => by rw [c1 (54 + 4 * a) (by omega) (by omega) (by omega)]; exact gk.2.2.1 a ha, gk.2.2.2⟩
  · have q := gm m hm
    unfold r_mob r_home r_corr r_rng at q ⊢
    rw [e12, c1 (46 + m) (by omega) (by omega) (by omega), c1 49 (by omega) (by omega) (by omega), c1 50 (by omega) (by omega) (by omega), c1 51 (by omega) (by omega) (by omega), c1 52 (by omega) (by omega) (by omega), c1 67 (by omega) (by omega) (by omega), c1 68 (by omega) (by omega) (by omega), c1 69 (by omega) (by omega) (by omega), c1 70 (by omega) (by omega) (by omega), m1 74 (by omega) (by omega) (by omega), m1 75 (by omega) (by omega) (by omega), m1 76 (by omega) (by omega) (by omega), m1 77 (by omega) (by omega) (by omega), m1 78 (by omega) (by omega) (by omega), m1 79 (by omega) (by omega) (by omega), m1 80 (by omega) (by omega) (by omega), m1 81 (by omega) (by omega) (by omega), m1 82 (by omega) (by omega) (by omega), m1 83 (by omega) (by omega) (by omega), m1 84 (by omega) (by omega) (by omega), m1 85 (by omega) (by omega) (by omega), m1 86 (by omega) (by omega) (by omega), m1 87 (by omega) (by omega) (by omega), m1 88 (by omega) (by omega) (by omega), m1 92 (by omega) (by omega) (by omega), m1 93 (by omega) (by omega) (by omega), m1 94 (by omega) (by omega) (by omega), m1 95 (by omega) (by omega) (by omega)]
    exact q
  · have q := gf a ha m hm
    unfold r_fa at q ⊢
    rw [e12, c1 (54 + 4 * a + 1) (by omega) (by omega) (by omega), c1 (54 + 4 * a + 2) (by omega) (by omega) (by omega), c1 (54 + 4 * a + 3) (by omega) (by omega) (by omega), m1 89 (by omega) (by omega) (by omega), m1 90 (by omega) (by omega) (by omega), m1 91 (by omega) (by omega) (by omega)]
    exact q
  · rw [c3] at hk
    have hk2 : k + 1 < n := by omega
    have key : ∃ k' : Nat, (k' : Int) < (σ 1 1).toInt ∧ σ' 2 k = σ 2 k' ∧ ∀ f, f < 9 → mrow τ' k f = mrow τ k' f := by
      by_cases hik : i ≤ k
      · refine ⟨k + 1, by omega, ?_, fun f hf => ?_⟩
        · rw [c4]
          unfold pi_r
          rw [if_neg (by omega), if_pos (by omega)]
        · show τ' 72 (9 * k + f) = τ 72 (9 * (k + 1) + f)
          rw [m4, if_pos (by omega)]
          congr 1
          omega
      · refine ⟨k, by omega, ?_, fun f hf => ?_⟩
        · rw [c4]
          unfold pi_r
          rw [if_neg (by omega), if_neg (by omega)]
        · show τ' 72 (9 * k + f) = τ 72 (9 * k + f)
          rw [m4, if_neg (by omega)]
    obtain ⟨k', h1, h2, h3⟩ := key
    have q := gg k' h1
    have hr := hrow k' (by omega)
    have f1 : mq σ' k = mq σ k' := by unfold mq; rw [h2]
    have f2 : σ' (mq σ k') = σ (mq σ k') := c1 _ (by unfold mq; omega) (by unfold mq; omega) (by unfold mq; omega)
    unfold r_msg at q ⊢
    rw [f1, f2]
    exact ⟨ok' _ q.1, m_eq_ext (fun _ _ => rfl) h3 q.2⟩
theorem rem_C {σ : rMem} {i : Int32} (hs : (σ 1 1).toInt ≤ 40) (hi : 0 ≤ i.toInt ∧ i.toInt < (σ 1 1).toInt) : remC σ (sp_Wire_remove σ i) i.toNatClampNeg (σ 1 1).toNatClampNeg := by
  have h1 := rx_cn (x := i) (by omega)
  have h2 := rx_cn (x := σ 1 1) (by omega)
  have ed : (σ 1 1 - 1).toInt = (σ 1 1).toInt - 1 := by rw [rx_subI (by rw [rx_I1]; omega) (by rw [rx_I1]; omega), rx_I1]
  have h3 := rx_cn (x := σ 1 1 - 1) (by omega)
  refine ⟨fun c a1 a2 _ => rm_fr a1 a2, fun k hk => ?_, ?_, fun t => ?_⟩
  · show rx_wr (rx_wr (sh_mem σ _ _) 1 1 _) 2 _ _ 1 k = σ 1 k
    rw [rx_wr_ne (by omega), rx_wr_sl hk, sh_ne (by omega)]
  · show (rx_wr (rx_wr (sh_mem σ _ _) 1 1 (sh_mem σ _ _ 1 1 - 1)) 2 _ _ 1 1).toInt = _
    rw [rx_wr_ne (by omega), rx_wr_eq, sh_ne (by omega), ed]
  · show rx_wr (rx_wr (sh_mem σ _ _) 1 1 (sh_mem σ _ _ 1 1 - 1)) 2 (rx_wr (sh_mem σ _ _) 1 1 (sh_mem σ _ _ 1 1 - 1) 1 1).toNatClampNeg (σ 2 i.toNatClampNeg) 2 t = _
    rw [rx_wr_at, rx_wr_eq, sh_ne (show (1 : Nat) ≠ 2 by omega), rx_wr_ne (by omega), sh_2]
    unfold pi_r sh_row
    by_cases g1 : t + 1 = (σ 1 1).toNatClampNeg
    · rw [if_pos g1, if_pos ⟨rfl, by omega⟩]
    · rw [if_neg g1, if_neg (by omega)]
      by_cases g2 : i.toNatClampNeg ≤ t ∧ t + 1 < (σ 1 1).toNatClampNeg
      · rw [if_pos g2, if_pos g2]
      · rw [if_neg g2, if_neg g2]
theorem rem_M {τ : rMem} {i : Int32} (hs : (τ 71 4).toInt ≤ 40) (hi : 0 ≤ i.toInt ∧ i.toInt < (τ 71 4).toInt) : remM τ (sp_Mod_take τ i) i.toNatClampNeg (τ 71 4).toNatClampNeg := by
  have h1 := rx_cn (x := i) (by omega)
  have h2 := rx_cn (x := τ 71 4) (by omega)
  have ed : (τ 71 4 - 1).toInt = (τ 71 4).toInt - 1 := by rw [rx_subI (by rw [rx_I1]; omega) (by rw [rx_I1]; omega), rx_I1]
  have h3 := rx_cn (x := τ 71 4 - 1) (by omega)
  have i1 := ms_ix0 (i := i) (by omega)
  have i2 := ms_ix0 (i := τ 71 4 - 1) (by omega)
  refine ⟨fun c a1 a2 a3 => ?_, fun k hk => ?_, ?_, fun t => ?_⟩
  · simp only [sp_Mod_take]
    rw [sf_ne a2]
    simp only [rx_wr_ne a1, rx_wr_ne a3]
  · simp only [sp_Mod_take]
    rw [sf_ne (by omega), rx_wr_sl hk]
    simp only [rx_wr_ne (show (71 : Nat) ≠ 73 by decide)]
  · simp only [sp_Mod_take]
    rw [sf_ne (by omega), rx_wr_eq]
    simp only [rx_wr_ne (show (71 : Nat) ≠ 73 by decide)]
    exact ed
  · simp only [sp_Mod_take]
    rw [sf_72, rx_wr_eq, rx_wr_ne (show (72 : Nat) ≠ 71 by decide)]
    simp only [rx_wr_ne (show (71 : Nat) ≠ 73 by decide), rx_wr_ne (show (72 : Nat) ≠ 73 by decide), i1, i2]
    unfold sf_row
    have e9 : 9 * (τ 71 4 - 1).toNatClampNeg = 9 * ((τ 71 4).toNatClampNeg - 1) := by omega
    rw [e9]
theorem ok_13 : ok_drop sR := by
  intro j σ i h hj
  have e := h.1.2.2.2.1
  by_cases hg : 0 ≤ i.toInt ∧ i.toInt < (σ 1 1).toInt
  · have hs := h.1.1
    have hin := rx_cn (x := i) (by omega)
    have hsn := rx_cn (x := σ 1 1) (by omega)
    have hh : ¬ rv_Wire_holds σ i = 0 := by
      unfold rv_Wire_holds
      rw [if_neg (by rw [rx_ltI, rx_I0]; omega), if_neg (by rw [rx_leI]; omega)]
      decide
    have hC := rem_C hs.2 hg
    have a1 : sp_Net_drop σ i = (sp_Wire_remove σ i, 1) := by
      unfold sp_Net_drop
      rw [if_neg hh]
    rw [a1]
    have e71 : ∀ c, 71 ≤ c → sp_Wire_remove σ i c = σ c := fun c hc => hC.1 c (by omega) (by omega) (by omega)
    generalize sp_Wire_remove σ i = σ' at hC e71
    have e1 := e71 71 (by omega)
    have hg2 : 0 ≤ i.toInt ∧ i.toInt < (σ' 71 4).toInt := by rw [e1, ← e]; exact hg
    have hmsg : ¬ rv_Mod_isMessage σ' i = 0 := by
      unfold rv_Mod_isMessage
      rw [if_neg (by rw [rx_ltI, rx_I0]; omega), if_neg (by rw [rx_leI]; omega)]
      decide
    have a2 : sp_Mod_drop σ' i = (sp_Mod_take σ' i, 1) := by
      unfold sp_Mod_drop
      rw [if_neg hmsg]
    show _ = (sp_Mod_drop σ' i).2 ∧ sR (j + 1) (sp_Mod_drop σ' i).1
    rw [a2]
    have hM := rem_M (τ := σ') (i := i) (by rw [e1, ← e]; exact hs.2) hg2
    have hq : RR j (20 * j) σ σ' := RR_congr (fun _ _ => rfl) e71 h
    rw [show (σ' 71 4).toNatClampNeg = (σ 1 1).toNatClampNeg by rw [e1, ← e]] at hM
    have h3 := RR_rem hq (by omega) (by omega) hC hM
    refine ⟨rfl, ?_⟩
    have h4 := RR_congr (fun c hc => hM.1 c (by omega) (by omega) (by omega)) (fun _ _ => rfl) h3
    unfold sR
    exact RR_up (by omega) (by omega) h4
  · have a1 : sp_Net_drop σ i = (σ, 0) := by
      unfold sp_Net_drop
      by_cases h1 : rv_Wire_holds σ i = 0
      · rw [if_pos h1]
      · exact absurd (rh_Wire h1) hg
    have a2 : sp_Mod_drop σ i = (σ, 0) := by
      unfold sp_Mod_drop
      by_cases h1 : rv_Mod_isMessage σ i = 0
      · rw [if_pos h1]
      · exact absurd (by have := rh_Mod h1; rw [← e] at this; exact this) hg
    rw [a1]
    show _ = (sp_Mod_drop σ i).2 ∧ sR (j + 1) (sp_Mod_drop σ i).1
    rw [a2]
    exact ⟨rfl, sR_same h⟩
