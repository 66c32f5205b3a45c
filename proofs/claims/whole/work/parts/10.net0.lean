def rx_t5 (t : Int32) : Prop := 0 ≤ t.toInt ∧ t.toInt ≤ 5
theorem rh_Wire {σ : rMem} {i : Int32} (h : ¬ rv_Wire_holds σ i = 0) : 0 ≤ i.toInt ∧ i.toInt < (σ 1 1).toInt := by
  unfold rv_Wire_holds at h
  by_cases h1 : i < 0
  · rw [if_pos h1] at h
    exact absurd rfl h
  · rw [if_neg h1] at h
    by_cases h2 : σ 1 1 ≤ i
    · rw [if_pos h2] at h
      exact absurd rfl h
    · rw [rx_ltI, rx_I0] at h1
      rw [rx_leI] at h2
      exact ⟨by omega, by omega⟩
theorem cp_ne {σ : rMem} {q r c : Nat} (h : c ≠ q) : sp_Msg_copyFrom σ q r c = σ c := by
  simp only [sp_Msg_copyFrom, rx_wr_ne h]
theorem cp_at {σ : rMem} {q r f : Nat} (h : r ≠ q) (hf : f < 9) : sp_Msg_copyFrom σ q r q f = σ r f := by
  simp only [sp_Msg_copyFrom, rx_wr_ne h]
  match f, hf with
  | 0, _ => simp [rx_wr, upd]
  | 1, _ => simp [rx_wr, upd]
  | 2, _ => simp [rx_wr, upd]
  | 3, _ => simp [rx_wr, upd]
  | 4, _ => simp [rx_wr, upd]
  | 5, _ => simp [rx_wr, upd]
  | 6, _ => simp [rx_wr, upd]
  | 7, _ => simp [rx_wr, upd]
  | 8, _ => simp [rx_wr, upd]
  | f + 9, hf => omega
theorem rm_fr {σ : rMem} {i : Int32} {c : Nat} (h1 : c ≠ 1) (h2 : c ≠ 2) : sp_Wire_remove σ i c = σ c := by
  unfold sp_Wire_remove
  rw [rx_wr_ne h2, rx_wr_ne h1, sh_ne h2]
theorem dl_at {σ : rMem} {i : Int32} {f : Nat} (hI : rx_SI σ) (g : 0 ≤ i.toInt ∧ i.toInt < (σ 1 1).toInt) (hf : f < 9) : sp_Wire_remove (sp_Msg_copyFrom σ 44 (2 + (σ 2 i.toNatClampNeg).toNatClampNeg)) i 44 f = σ (2 + (σ 2 i.toNatClampNeg).toNatClampNeg) f := by
  have h0 := rx_vn (rm_in hI g)
  have h1 := hI.2.1 _ h0
  have h2 := rx_cn (x := σ 2 i.toNatClampNeg) (by omega)
  rw [rm_fr (by omega) (by omega), cp_at (by omega) hf]
theorem dl_m {σ : rMem} {i : Int32} (hI : rx_SI σ) (g : 0 ≤ i.toInt ∧ i.toInt < (σ 1 1).toInt) (h : rx_iM (σ (2 + (σ 2 i.toNatClampNeg).toNatClampNeg) 3)) : rx_iM (sp_Wire_remove (sp_Msg_copyFrom σ 44 (2 + (σ 2 i.toNatClampNeg).toNatClampNeg)) i 44 3) := by
  rw [dl_at hI g (by omega)]
  exact h
theorem dl_t {σ : rMem} {i : Int32} (hI : rx_SI σ) (g : 0 ≤ i.toInt ∧ i.toInt < (σ 1 1).toInt) (h : rx_t5 (σ (2 + (σ 2 i.toNatClampNeg).toNatClampNeg) 1)) : rx_t5 (sp_Wire_remove (sp_Msg_copyFrom σ 44 (2 + (σ 2 i.toNatClampNeg).toNatClampNeg)) i 44 1) := by
  rw [dl_at hI g (by omega)]
  exact h
theorem ho_in {t : Int32} (ht : rx_t5 t) (h5 : ¬ t = 5) (h4 : ¬ t = 4) (h0 : ¬ t = 0) : vp_in (t - 1) 3 := by
  rw [rx_eqI] at h5 h4 h0
  have e5 : (5 : Int32).toInt = 5 := rfl
  have e4 : (4 : Int32).toInt = 4 := rfl
  rw [e5] at h5
  rw [e4] at h4
  rw [rx_I0] at h0
  obtain ⟨a, b⟩ := ht
  have e : (t - 1).toInt = t.toInt - 1 := by rw [rx_subI (by rw [rx_I1]; omega) (by rw [rx_I1]; omega), rx_I1]
  exact rx_vinI (by omega) (by omega)
theorem rm_Agent {a : Int32} (h : ¬ rv_Net_isAgent a = 0) : 0 ≤ a.toInt ∧ a.toInt ≤ 3 := by
  unfold rv_Net_isAgent rv_Net_isWithin at h
  by_cases h1 : a < 0
  · rw [if_pos h1] at h
    exact absurd rfl h
  · rw [if_neg h1] at h
    by_cases h2 : 3 < a
    · rw [if_pos h2] at h
      exact absurd rfl h
    · have e3 : (3 : Int32).toInt = 3 := rfl
      rw [rx_ltI] at h1 h2
      rw [rx_I0] at h1
      rw [e3] at h2
      exact ⟨by omega, by omega⟩
theorem ag_in {a : Int32} (h : ¬ rv_Net_isAgent a = 0) (h0 : ¬ a = 0) : vp_in (a - 1) 3 := by
  have h1 := rm_Agent h
  rw [rx_eqI, rx_I0] at h0
  have e : (a - 1).toInt = a.toInt - 1 := by rw [rx_subI (by rw [rx_I1]; omega) (by rw [rx_I1]; omega), rx_I1]
  exact rx_vinI (by omega) (by omega)
theorem sy_ok {x : Int32} (h : x < 200) : (x + 1).toInt ≤ 200 := by
  have e : (200 : Int32).toInt = 200 := rfl
  have h2 := rx_lo x
  rw [rx_ltI, e] at h
  rw [rx_addI (by rw [rx_I1]; omega) (by rw [rx_I1]; omega), rx_I1]
  omega
