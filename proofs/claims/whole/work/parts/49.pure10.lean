theorem rx_wr_self {σ : rMem} {i k : Nat} : rx_wr σ i k (σ i k) = σ := by
  funext c f
  rw [rx_wr_at]
  split
  · rename_i h
    rw [h.1, h.2]
  · rfl
/-- one register of a mobile, written alike on both sides -/
theorem RR_slot {J : Nat} {T : Int} {σ τ : rMem} {n k c : Nat} {x : Int32} (hn : n < 2) (h : RR J T σ τ) (hk : (k = 6 ∧ c = 77) ∨ (k = 7 ∧ c = 78) ∨ (k = 8 ∧ c = 79) ∨ (k = 9 ∧ c = 80) ∨ (k = 10 ∧ c = 81 ∧ 0 ≤ x.toInt)) : RR J T (rx_wr σ (46 + n) k x) (rx_wr τ c n x) := by
  obtain ⟨⟨a1, a2, a3, a4, a5, a6, a7, a8, a9, a10, a11⟩, -, -, hr⟩ := h.2.2.2.1 _ hn
  rcases hk with ⟨rfl, rfl⟩ | ⟨rfl, rfl⟩ | ⟨rfl, rfl⟩ | ⟨rfl, rfl⟩ | ⟨rfl, rfl, hx⟩
  · refine RR_mob hn h (Nat.le_refl _) (fun c hc => rx_wr_ne hc) ⟨rx_wr_sl (by omega), rx_wr_sl (by omega)⟩ (fun c hc => rx_wr_ne (by omega)) (fun c k hk => rx_wr_sl hk) ?_ ?_ ?_
    · unfold r_mob
      simp (disch := omega) only [rx_wr_sl, rx_wr_ne, rx_wr_eq]
      exact ⟨a1, a2, a3, trivial, a5, a6, a7, a8, a9, a10, a11⟩
    · unfold r_rng at hr ⊢
      simp (disch := omega) only [rx_wr_sl, rx_wr_ne, rx_wr_eq]
      exact hr
    · rw [rx_wr_sl (by omega)]
      omega
  · refine RR_mob hn h (Nat.le_refl _) (fun c hc => rx_wr_ne hc) ⟨rx_wr_sl (by omega), rx_wr_sl (by omega)⟩ (fun c hc => rx_wr_ne (by omega)) (fun c k hk => rx_wr_sl hk) ?_ ?_ ?_
    · unfold r_mob
      simp (disch := omega) only [rx_wr_sl, rx_wr_ne, rx_wr_eq]
      exact ⟨a1, a2, a3, a4, trivial, a6, a7, a8, a9, a10, a11⟩
    · unfold r_rng at hr ⊢
      simp (disch := omega) only [rx_wr_sl, rx_wr_ne, rx_wr_eq]
      exact hr
    · rw [rx_wr_sl (by omega)]
      omega
  · refine RR_mob hn h (Nat.le_refl _) (fun c hc => rx_wr_ne hc) ⟨rx_wr_sl (by omega), rx_wr_sl (by omega)⟩ (fun c hc => rx_wr_ne (by omega)) (fun c k hk => rx_wr_sl hk) ?_ ?_ ?_
    · unfold r_mob
      simp (disch := omega) only [rx_wr_sl, rx_wr_ne, rx_wr_eq]
      exact ⟨a1, a2, a3, a4, a5, trivial, a7, a8, a9, a10, a11⟩
    · unfold r_rng at hr ⊢
      simp (disch := omega) only [rx_wr_sl, rx_wr_ne, rx_wr_eq]
      exact hr
    · rw [rx_wr_sl (by omega)]
      omega
  · refine RR_mob hn h (Nat.le_refl _) (fun c hc => rx_wr_ne hc) ⟨rx_wr_sl (by omega), rx_wr_sl (by omega)⟩ (fun c hc => rx_wr_ne (by omega)) (fun c k hk => rx_wr_sl hk) ?_ ?_ ?_
    · unfold r_mob
      simp (disch := omega) only [rx_wr_sl, rx_wr_ne, rx_wr_eq]
      exact ⟨a1, a2, a3, a4, a5, a6, trivial, a8, a9, a10, a11⟩
    · unfold r_rng at hr ⊢
      simp (disch := omega) only [rx_wr_sl, rx_wr_ne, rx_wr_eq]
      exact hr
    · rw [rx_wr_sl (by omega)]
      omega
  · refine RR_mob hn h (Nat.le_refl _) (fun c hc => rx_wr_ne hc) ⟨rx_wr_sl (by omega), rx_wr_sl (by omega)⟩ (fun c hc => rx_wr_ne (by omega)) (fun c k hk => rx_wr_sl hk) ?_ ?_ ?_
    · unfold r_mob
      simp (disch := omega) only [rx_wr_sl, rx_wr_ne, rx_wr_eq]
      exact ⟨a1, a2, a3, a4, a5, a6, a7, trivial, a9, a10, a11⟩
    · unfold r_rng at hr ⊢
      simp (disch := omega) only [rx_wr_sl, rx_wr_ne, rx_wr_eq]
      exact ⟨hr.1, hr.2.1, hr.2.2.1, hx, hr.2.2.2.2⟩
    · rw [rx_wr_sl (by omega)]
      omega
theorem RS_slot {J : Nat} {T : Int} {σ τ : rMem} {n k c : Nat} {x : Int32} (hn : n < 2) (h : RR J T σ τ) (hk : (k = 6 ∧ c = 77) ∨ (k = 7 ∧ c = 78) ∨ (k = 8 ∧ c = 79) ∨ (k = 9 ∧ c = 80) ∨ (k = 10 ∧ c = 81 ∧ 0 ≤ x.toInt)) : RS J T σ τ (rx_wr σ (46 + n) k x) (rx_wr τ c n x) :=
  ⟨RR_slot hn h hk, fun c hc => rx_wr_ne (by omega), fun c hc => rx_wr_ne (by omega)⟩
/-! a mobile notices -/
def nt1 (σ : rMem) (j : Nat) : rMem := if σ 1 2 < σ (46 + j) 9 then σ else rx_wr σ (46 + j) 8 (-1)
def nt2 (σ : rMem) (j : Nat) : rMem := if σ 1 2 < σ (46 + j) 7 then σ else rx_wr σ (46 + j) 6 (-1)
def nt3 (σ : rMem) (j : Nat) : rMem := if σ (46 + j) 10 = 0 then σ else if σ 1 2 - σ (46 + j) 12 < 3 then σ else if σ (46 + j) 11 = σ (46 + j) 8 then sp_Mob_registerWith σ j (σ (46 + j) 11) else rx_wr σ (46 + j) 10 0
theorem nt_eq {σ : rMem} {j : Nat} : sp_Mob_notice σ j = nt3 (nt2 (nt1 σ j) j) j := by
  unfold sp_Mob_notice nt1
  by_cases h1 : σ 1 2 < σ (46 + j) 9
  · rw [if_pos h1, if_pos h1]
    unfold nt2
    by_cases h2 : σ 1 2 < σ (46 + j) 7
    · rw [if_pos h2, if_pos h2]
      rfl
    · rw [if_neg h2, if_neg h2]
      rfl
  · rw [if_neg h1, if_neg h1]
    dsimp only
    generalize rx_wr σ (46 + j) 8 (-1) = σ1
    unfold nt2
    by_cases h2 : σ1 1 2 < σ1 (46 + j) 7
    · rw [if_pos h2, if_pos h2]
      rfl
    · rw [if_neg h2, if_neg h2]
      rfl
def nm1 (τ : rMem) (n : Nat) : rMem := rx_wr τ 79 n (if τ 71 3 < τ 80 n then τ 79 n else -1)
def nm2 (τ : rMem) (n : Nat) : rMem := rx_wr τ 77 n (if τ 71 3 < τ 78 n then τ 77 n else -1)
def nm3 (τ : rMem) (m : Int32) : rMem := if (if τ 81 m.toNatClampNeg ≤ 0 then 0 else (if τ 71 3 - τ 83 m.toNatClampNeg < 3 then 0 else 1) : Int32) = 0 then τ else (if τ 79 m.toNatClampNeg = τ 82 m.toNatClampNeg then sp_Mod_register τ m (τ 82 m.toNatClampNeg) else rx_wr τ 81 m.toNatClampNeg 0)
theorem nm_eq {τ : rMem} {m : Int32} : sp_Mod_tickMobile τ m = nm3 (nm2 (nm1 τ m.toNatClampNeg) m.toNatClampNeg) m := rfl
theorem RS_notice {J : Nat} {T : Int} {σ τ : rMem} {m : Int32} (hm : rx_iM m) (hb : (σ (46 + m.toNatClampNeg) 5).toInt + 1 ≤ (σ 1 2).toInt + J) (hT : T + J ≤ 100000) (h : RR J T σ τ) : RS J T σ τ (sp_Mob_notice σ m.toNatClampNeg) (sp_Mod_tickMobile τ m) ∧ (∀ c, c ≠ 46 + m.toNatClampNeg → 44 ≤ c → sp_Mob_notice σ m.toNatClampNeg c = σ c) ∧ sp_Mob_notice σ m.toNatClampNeg 1 2 = σ 1 2 := by
  have hn := rx_j2 hm
  rw [nt_eq, nm_eq]
  have A1 : RS J T σ τ (nt1 σ m.toNatClampNeg) (nm1 τ m.toNatClampNeg) ∧ (∀ c, c ≠ 46 + m.toNatClampNeg → nt1 σ m.toNatClampNeg c = σ c) ∧ nt1 σ m.toNatClampNeg (46 + m.toNatClampNeg) 5 = σ (46 + m.toNatClampNeg) 5 := by
    obtain ⟨⟨a1, a2, a3, a4, a5, a6, a7, a8, a9, a10, a11⟩, -, -, hr⟩ := h.2.2.2.1 _ hn
    unfold nt1 nm1
    rw [← h.1.2.2.2.2, ← a7]
    by_cases h1 : σ 1 2 < σ (46 + m.toNatClampNeg) 9
    · rw [if_pos h1, if_pos h1, rx_wr_self]
      exact ⟨RS_id h, fun _ _ => rfl, rfl⟩
    · rw [if_neg h1, if_neg h1]
      exact ⟨RS_slot hn h (by simp), fun c hc => rx_wr_ne hc, rx_wr_sl (by omega)⟩
  obtain ⟨S1, f1, g1⟩ := A1
  generalize nt1 σ m.toNatClampNeg = σ1 at *
  generalize nm1 τ m.toNatClampNeg = τ1 at *
  have A2 : RS J T σ1 τ1 (nt2 σ1 m.toNatClampNeg) (nm2 τ1 m.toNatClampNeg) ∧ (∀ c, c ≠ 46 + m.toNatClampNeg → nt2 σ1 m.toNatClampNeg c = σ1 c) ∧ nt2 σ1 m.toNatClampNeg (46 + m.toNatClampNeg) 5 = σ1 (46 + m.toNatClampNeg) 5 := by
    obtain ⟨⟨a1, a2, a3, a4, a5, a6, a7, a8, a9, a10, a11⟩, -, -, hr⟩ := S1.1.2.2.2.1 _ hn
    unfold nt2 nm2
    rw [← S1.1.1.2.2.2.2, ← a5]
    by_cases h1 : σ1 1 2 < σ1 (46 + m.toNatClampNeg) 7
    · rw [if_pos h1, if_pos h1, rx_wr_self]
      exact ⟨RS_id S1.1, fun _ _ => rfl, rfl⟩
    · rw [if_neg h1, if_neg h1]
      exact ⟨RS_slot hn S1.1 (by simp), fun c hc => rx_wr_ne hc, rx_wr_sl (by omega)⟩
  obtain ⟨S2, f2, g2⟩ := A2
  generalize nt2 σ1 m.toNatClampNeg = σ2 at *
  generalize nm2 τ1 m.toNatClampNeg = τ2 at *
  have S := RS_tr S1 S2
  have f : ∀ c, c ≠ 46 + m.toNatClampNeg → σ2 c = σ c := fun c hc => (f2 c hc).trans (f1 c hc)
  have e1 : σ2 1 = σ 1 := f 1 (by omega)
  have g5 : (σ2 (46 + m.toNatClampNeg) 5).toInt + 1 ≤ (σ2 1 2).toInt + J := by rw [g2, g1, e1]; exact hb
  obtain ⟨⟨a1, a2, a3, a4, a5, a6, a7, a8, a9, a10, a11⟩, -, -, hr⟩ := S2.1.2.2.2.1 _ hn
  unfold nt3 nm3
  rw [← S2.1.1.2.2.2.2, ← a8, ← a9, ← a6, ← a10]
  have h0 := hr.2.2.2.1
  by_cases h1 : σ2 (46 + m.toNatClampNeg) 10 = 0
  · rw [if_pos h1, if_pos (show σ2 (46 + m.toNatClampNeg) 10 ≤ 0 by rw [h1]; decide), if_pos rfl]
    exact ⟨S, fun c hc _ => f c hc, by rw [e1]⟩
  · rw [if_neg h1, if_neg (show ¬ σ2 (46 + m.toNatClampNeg) 10 ≤ 0 by rw [rx_eqI, rx_I0] at h1; rw [rx_leI, rx_I0]; omega)]
    by_cases h2 : σ2 1 2 - σ2 (46 + m.toNatClampNeg) 12 < 3
    · rw [if_pos h2, if_pos h2, if_pos rfl]
      exact ⟨S, fun c hc _ => f c hc, by rw [e1]⟩
    · rw [if_neg h2, if_neg h2, if_neg (show ¬ (1 : Int32) = 0 by decide)]
      by_cases h3 : σ2 (46 + m.toNatClampNeg) 11 = σ2 (46 + m.toNatClampNeg) 8
      · rw [if_pos h3, if_pos h3.symm]
        obtain ⟨S3, f3, c3⟩ := RS_register hm hr.2.2.2.2.1 (Nat.le_refl J) g5 hT S2.1
        exact ⟨RS_tr S S3, fun c hc h44 => (f3 c hc h44).trans (f c hc), by rw [c3, e1]⟩
      · rw [if_neg h3, if_neg (fun q => h3 q.symm)]
        exact ⟨RS_tr S (RS_slot hn S2.1 (by simp)), fun c hc _ => (rx_wr_ne hc).trans (f c hc), by rw [rx_wr_ne (by omega), e1]⟩
/-! resending -/
theorem RS_rs {J : Nat} {T : Int} {m : Int32} (hm : rx_iM m) : ∀ (n : Nat) (σ τ : rMem) (k : Int32), RR J T σ τ → RS J T σ τ (rs_Corr n σ m k) (rs_Mod n τ m k 1) ∧ (∀ c, c ≠ 1 → 44 ≤ c → rs_Corr n σ m k c = σ c) ∧ rs_Corr n σ m k 1 2 = σ 1 2 := by
  have hn := rx_j2 hm
  intro n
  induction n with
  | zero =>
    intro σ τ k h
    exact ⟨RS_id h, fun _ _ _ => rfl, rfl⟩
  | succ n ih =>
    intro σ τ k h
    have k2 := (h.2.2.2.1 _ hn).2.2.1.2.1
    unfold rs_Corr rs_Mod
    rw [← k2]
    by_cases h1 : σ 68 m.toNatClampNeg < k
    · rw [if_pos h1, if_pos (Or.inl h1)]
      exact ⟨RS_id h, fun _ _ _ => rfl, rfl⟩
    · rw [if_neg h1, if_neg (fun q => q.elim h1 (by decide))]
      rw [rx_ltI] at h1
      have hC := sc_sendTo h.1 (tg := 0) (kd := 4) (mo := m) (nu := k)
      have S1 : RS J T σ τ (sp_Wire_sendTo σ 0 4 m k).1 (sp_Mod_send τ 4 0 m 0 k 0 0 0 0) := by
        refine RS_to h ⟨hm, z60, ?_⟩ (by decide)
        refine Or.inr (Or.inr (Or.inr (Or.inl ⟨rfl, Or.inl rfl, ?_⟩)))
        show k.toInt ≤ (σ 68 m.toNatClampNeg).toInt
        omega
      obtain ⟨S2, f2, c2⟩ := ih _ _ (k + 1) S1.1
      exact ⟨RS_tr S1 S2, fun c hc h44 => (f2 c hc h44).trans (hC.1 c hc (by omega)), c2.trans (hC.2.1 2 (by omega))⟩
theorem rs_0 {m : Int32} : ∀ (n : Nat) (τ : rMem) (k : Int32), rs_Mod n τ m k 0 = τ := by
  intro n τ k
  cases n with
  | zero => rfl
  | succ n => rw [rs_Mod, if_pos (Or.inr rfl)]
theorem RS_resend {J : Nat} {T : Int} {σ τ : rMem} {m : Int32} (hm : rx_iM m) (h : RR J T σ τ) : RS J T σ τ (sp_Corr_resendIfDue σ m) (or_Mod m τ) ∧ (∀ c, c ≠ 1 → c ≠ 70 → 44 ≤ c → sp_Corr_resendIfDue σ m c = σ c) ∧ sp_Corr_resendIfDue σ m 1 2 = σ 1 2 := by
  have hn := rx_j2 hm
  have e5 : (5 : Int32).toInt = 5 := rfl
  obtain ⟨k1, k2, k3, k4⟩ := (h.2.2.2.1 _ hn).2.2.1
  have eM : ∀ dz : Int32, (if τ 93 m.toNatClampNeg ≤ τ 94 m.toNatClampNeg then 0 else (if τ 71 3 - τ 95 m.toNatClampNeg < 5 then 0 else 1) : Int32) = dz → or_Mod m τ = rx_wr (rs_Mod ((τ 93 m.toNatClampNeg).toInt + 1 - Int32.toInt (τ 94 m.toNatClampNeg + 1)).toNat τ m (τ 94 m.toNatClampNeg + 1) dz) 95 m.toNatClampNeg (if dz = 0 then rs_Mod ((τ 93 m.toNatClampNeg).toInt + 1 - Int32.toInt (τ 94 m.toNatClampNeg + 1)).toNat τ m (τ 94 m.toNatClampNeg + 1) dz 95 m.toNatClampNeg else rs_Mod ((τ 93 m.toNatClampNeg).toInt + 1 - Int32.toInt (τ 94 m.toNatClampNeg + 1)).toNat τ m (τ 94 m.toNatClampNeg + 1) dz 71 3) := by
    intro dz hdz
    unfold or_Mod
    dsimp only
    rw [hdz]
  have eM0 : (if τ 93 m.toNatClampNeg ≤ τ 94 m.toNatClampNeg then 0 else (if τ 71 3 - τ 95 m.toNatClampNeg < 5 then 0 else 1) : Int32) = 0 → or_Mod m τ = τ := by
    intro hz
    rw [eM 0 hz, rs_0, if_pos rfl, rx_wr_self]
  unfold sp_Corr_resendIfDue
  rw [← k2, ← k3, ← k4, ← h.1.2.2.2.2] at eM0 eM
  by_cases h1 : σ 68 m.toNatClampNeg ≤ σ 69 m.toNatClampNeg
  · rw [if_pos h1] at eM0 ⊢
    rw [eM0 rfl]
    exact ⟨RS_id h, fun _ _ _ _ => rfl, rfl⟩
  · rw [if_neg h1] at eM0 eM ⊢
    by_cases h2 : σ 1 2 - σ 70 m.toNatClampNeg < 5
    · rw [if_pos h2] at eM0
      rw [eM0 rfl, if_neg (by rw [rx_ltI, e5] at h2; rw [rx_leI, e5]; omega)]
      exact ⟨RS_id h, fun _ _ _ _ => rfl, rfl⟩
    · rw [if_neg h2] at eM
      rw [eM 1 rfl, if_pos (by rw [rx_ltI, e5] at h2; rw [rx_leI, e5]; omega), if_neg (by decide)]
      dsimp only
      obtain ⟨S1, f1, c1⟩ := RS_rs hm ((σ 68 m.toNatClampNeg).toInt + 1 - (σ 69 m.toNatClampNeg + 1).toInt).toNat σ τ (σ 69 m.toNatClampNeg + 1) h
      generalize rs_Corr ((σ 68 m.toNatClampNeg).toInt + 1 - (σ 69 m.toNatClampNeg + 1).toInt).toNat σ m (σ 69 m.toNatClampNeg + 1) = σ2 at *
      generalize rs_Mod ((σ 68 m.toNatClampNeg).toInt + 1 - (σ 69 m.toNatClampNeg + 1).toInt).toNat τ m (σ 69 m.toNatClampNeg + 1) 1 = τ2 at *
      have R2 := S1.1
      obtain ⟨-, -, p3, p4⟩ := R2.2.2.2.1 _ hn
      refine ⟨RS_tr S1 ⟨RR_cor (n := m.toNatClampNeg) R2 (fun c hc => rx_wr_ne (by omega)) (fun c k hk => rx_wr_sl hk) (fun c hc => rx_wr_ne (by omega)) (fun c k hk => rx_wr_sl hk) ?_ ?_ ?_, fun c hc => rx_wr_ne (by omega), fun c hc => rx_wr_ne (by omega)⟩, fun c hc h70 h44 => (rx_wr_ne h70).trans (f1 c hc h44), ?_⟩
      · obtain ⟨x1, x2, x3, x4⟩ := p3
        unfold r_corr
        rw [rx_wr_ne (a := 67) (by omega), rx_wr_ne (a := 68) (by omega), rx_wr_ne (a := 69) (by omega), rx_wr_eq, rx_wr_ne (a := 92) (by omega), rx_wr_ne (a := 93) (by omega), rx_wr_ne (a := 94) (by omega), rx_wr_eq]
        exact ⟨x1, x2, x3, R2.1.2.2.2.2⟩
      · rw [rx_wr_ne (a := 67) (by omega), rx_wr_ne (a := 68) (by omega), rx_wr_ne (a := 69) (by omega)]
        exact p4.1
      · rw [rx_wr_ne (a := 68) (by omega)]
        omega
      · rw [rx_wr_ne (by omega), c1]
