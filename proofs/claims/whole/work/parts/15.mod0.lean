theorem rx_mulI {x y : Int32} (h1 : -2147483648 ≤ x.toInt * y.toInt) (h2 : x.toInt * y.toInt < 2147483648) : (x * y).toInt = x.toInt * y.toInt := by
  rw [Int32.toInt_mul]
  exact Int.bmod_eq_of_le_mul_two (by omega) (by omega)
theorem rx_9I {x : Int32} (h : 0 ≤ x.toInt ∧ x.toInt ≤ 1000) : (9 * x).toInt = 9 * x.toInt := by
  have e : (9 : Int32).toInt = 9 := rfl
  rw [rx_mulI (by rw [e]; omega) (by rw [e]; omega), e]
theorem rx_9kI {x k : Int32} (h : 0 ≤ x.toInt ∧ x.toInt ≤ 1000) (hk : 0 ≤ k.toInt ∧ k.toInt ≤ 8) : (9 * x + k).toInt = 9 * x.toInt + k.toInt := by
  rw [rx_addI (by rw [rx_9I h]; omega) (by rw [rx_9I h]; omega), rx_9I h]
theorem sd_lt {σ : rMem} (h : σ 71 4 < 40) : (σ 71 4).toInt < 40 := by
  rw [rx_ltI, rx_I40] at h
  exact h
theorem sd_in0 {σ : rMem} (hI : rx_SI σ) (h : σ 71 4 < 40) : vp_in (9 * σ 71 4) 369 := by
  have h1 := hI.2.2.1
  have h2 := sd_lt h
  have h3 := rx_9I (x := σ 71 4) (by omega)
  exact rx_vinI (by omega) (by omega)
theorem sd_in {σ : rMem} (hI : rx_SI σ) (h : σ 71 4 < 40) {k : Int32} (hk : 0 ≤ k.toInt ∧ k.toInt ≤ 8) : vp_in (9 * σ 71 4 + k) 369 := by
  have h1 := hI.2.2.1
  have h2 := sd_lt h
  have h3 := rx_9kI (x := σ 71 4) (by omega) hk
  exact rx_vinI (by omega) (by omega)
theorem sd_z {σ : rMem} (hI : rx_SI σ) (h : σ 71 4 < 40) : 0 ≤ (σ 71 4 + 1).toInt ∧ (σ 71 4 + 1).toInt ≤ 40 := by
  have h1 := hI.2.2.1
  have h2 := sd_lt h
  rw [rx_addI (by rw [rx_I1]; omega) (by rw [rx_I1]; omega), rx_I1]
  omega
theorem fa_in {a m : Int32} (ha : 1 ≤ a.toInt ∧ a.toInt ≤ 3) (hm : rx_iM m) : vp_in (2 * a + m) 8 := by
  have e : (2 : Int32).toInt = 2 := rfl
  have h1 : (2 * a).toInt = 2 * a.toInt := by rw [rx_mulI (by rw [e]; omega) (by rw [e]; omega), e]
  obtain ⟨h2, h3⟩ := hm
  have h4 : (2 * a + m).toInt = 2 * a.toInt + m.toInt := by rw [rx_addI (by rw [h1]; omega) (by rw [h1]; omega), h1]
  exact rx_vinI (by omega) (by omega)
theorem vs_in {a m : Int32} (h1 : ¬ a < 1) (h2 : a ≤ 3) (hm : rx_iM m) : vp_in (2 * a + m) 8 := by
  have e3 : (3 : Int32).toInt = 3 := rfl
  rw [rx_ltI, rx_I1] at h1
  rw [rx_leI, e3] at h2
  exact fa_in ⟨by omega, by omega⟩ hm
theorem ms_in0 {σ : rMem} {i : Int32} (hI : rx_SI σ) (g : 0 ≤ i.toInt ∧ i.toInt < (σ 71 4).toInt) : vp_in (9 * i) 369 := by
  have h1 := hI.2.2.1
  have h3 := rx_9I (x := i) (by omega)
  exact rx_vinI (by omega) (by omega)
theorem ms_in {σ : rMem} {i : Int32} (hI : rx_SI σ) (g : 0 ≤ i.toInt ∧ i.toInt < (σ 71 4).toInt) {k : Int32} (hk : 0 ≤ k.toInt ∧ k.toInt ≤ 8) : vp_in (9 * i + k) 369 := by
  have h1 := hI.2.2.1
  have h3 := rx_9kI (x := i) (by omega) hk
  exact rx_vinI (by omega) (by omega)
