theorem fr_begin {σ : rMem} {q c : Nat} {kd tg mo nu : Int32} (h : c ≠ q) : sp_Msg_begin σ q kd tg mo nu c = σ c := by
  simp only [sp_Msg_begin, rx_wr_ne h]
theorem fr_nextRow {σ : rMem} {c : Nat} (h : c ≠ 1) : (sp_Wire_nextRow σ).1 c = σ c := by
  unfold sp_Wire_nextRow
  by_cases h1 : rv_Wire_isFull σ = 0
  · rw [if_pos h1]
    exact rx_wr_ne h
  · rw [if_neg h1]
theorem fr_sendTo {σ : rMem} {c : Nat} {tg kd mo nu : Int32} (hI : rx_SI σ) (h : c ≠ 1) (h2 : c < 3 ∨ 45 ≤ c) : (sp_Wire_sendTo σ tg kd mo nu).1 c = σ c := by
  have hq := rq_Wire_nextRow hI
  show sp_Msg_begin (sp_Wire_nextRow σ).1 (sp_Wire_nextRow σ).2 kd tg mo nu c = σ c
  rw [fr_begin (by omega), fr_nextRow h]
/-! Correspondent.pump -/
def pm_Corr : Nat → rMem → Int32 → rMem
  | 0, σ, _ => σ
  | n + 1, σ, m => if σ 67 m.toNatClampNeg ≤ σ 68 m.toNatClampNeg ∨ σ 69 m.toNatClampNeg + 3 ≤ σ 68 m.toNatClampNeg then σ else pm_Corr n (bd_Corr_pump σ m) m
def sp_Corr_pump (σ : rMem) (m : Int32) : rMem := pm_Corr ((σ 67 m.toNatClampNeg).toInt - (σ 68 m.toNatClampNeg).toInt).toNat σ m
theorem bd_fr {σ : rMem} {m : Int32} {c : Nat} (hI : rx_SI σ) (hm : rx_iM m) (h : ¬ σ 67 m.toNatClampNeg ≤ σ 68 m.toNatClampNeg) (h1 : c ≠ 1) (h2 : c < 3 ∨ 45 ≤ c) (h3 : c ≠ 70) : bd_Corr_pump σ m c = rx_wr σ 68 m.toNatClampNeg (σ 68 m.toNatClampNeg + 1) c := by
  have hI1 : rx_SI (rx_wr σ 68 m.toNatClampNeg (σ 68 m.toNatClampNeg + 1)) := rx_SI_cnt (by omega) (pm_ok hI hm h) hI
  unfold bd_Corr_pump
  rw [rx_wr_ne h3, fr_sendTo hI1 h1 h2]
theorem lp_Corr_pump (l : Launch) (D : va_G) (b : Nat) (ca : Nat → ClassId) {m : Int32} (hm : rx_iM m) {p : Program} {e : Env} {s : State} {mm : MethodId} {args : Array Value} {below : List Frame} {meth : Method} {c : Code} (C : rx_Cw p s mm args meth c R_Corr b_Corr_pump 2 none (rx_fin D b ca)) :
    ∀ (n : Nat) (σ : rMem), ((σ 67 m.toNatClampNeg).toInt - (σ 68 m.toNatClampNeg).toInt).toNat ≤ n → rx_X p l e (rx_rm 3) s mm args below meth c (rg_O (rx_fin D b ca)) s.heap 0 0 (MQ below (rx_Q (rx_fin D b ca) none (pm_Corr n σ m)) args s 0 0 (rg_O (rx_fin D b ca))) 2 (rx_m (rx_fin D b ca) σ) 0 [(0, .ref (rg_A (rx_fin D b ca) 66)), (1, .int m)] [] := by
  intro n
  induction n with
  | zero =>
    intro σ hf
    refine it_Corr_pump l D b ca C hm (fun h => rx_vret C (pc := 75) d_Corr_pump_75 rfl) (fun h1 h2 => ?_)
    rw [rx_leI] at h1
    omega
  | succ n ih =>
    intro σ hf
    refine rx_si (fun hI => ?_)
    refine it_Corr_pump l D b ca C hm (fun h => rx_vret C (pc := 75) d_Corr_pump_75 (by rw [pm_Corr, if_pos h])) (fun h1 h2 => ?_)
    have e1 : pm_Corr (n + 1) σ m = pm_Corr n (bd_Corr_pump σ m) m := by rw [pm_Corr, if_neg (fun h => h.elim h1 h2)]
    rw [e1]
    refine ih _ ?_
    rw [bd_fr hI hm h1 (by omega) (by omega) (by omega), bd_fr hI hm h1 (by omega) (by omega) (by omega), rx_wr_ne (a := 67) (by omega), rx_wr_eq]
    have h3 := hI.2.2.2 _ (rx_j2 hm)
    have h4 := rx_lo (σ 68 m.toNatClampNeg)
    rw [rx_leI] at h1
    rw [rx_addI (by rw [rx_I1]; omega) (by rw [rx_I1]; omega), rx_I1]
    omega
theorem c_Corr_pump (l : Launch) (D : va_G) (b : Nat) (ca : Nat → ClassId) {σ : rMem} {m : Int32} (hm : rx_iM m) : rx_C l (rx_fin D b ca) y_Corr_pump b_Corr_pump 2 none (rx_rm 3) [.ref (rg_A (rx_fin D b ca) 66), .int m] σ none (sp_Corr_pump σ m) := by
  refine rx_of (lo := [(0, .ref (rg_A (rx_fin D b ca) 66)), (1, .int m)]) (by decide) (rx_fin_D D b ca) rfl (Nat.le_of_ble_eq_true rfl) rfl ?_
  intro p e s m below meth c C
  exact lp_Corr_pump l D b ca hm C _ _ (Nat.le_refl _)
/-! Correspondent.resendIfDue -/
def rs_Corr : Nat → rMem → Int32 → Int32 → rMem
  | 0, σ, _, _ => σ
  | n + 1, σ, m, k => if σ 68 m.toNatClampNeg < k then σ else rs_Corr n (sp_Wire_sendTo σ 0 4 m k).1 m (k + 1)
theorem lp_Corr_resend (l : Launch) (D : va_G) (b : Nat) (ca : Nat → ClassId) {m : Int32} (hm : rx_iM m) {p : Program} {e : Env} {s : State} {mm : MethodId} {args : Array Value} {below : List Frame} {meth : Method} {c : Code} {H0 : Heap} {Q : State → Prop} (C : rx_Cw p s mm args meth c R_Corr b_Corr_resendIfDue 3 none (rx_fin D b ca)) :
    ∀ (n : Nat) (σ : rMem) (k : Int32), ((σ 68 m.toNatClampNeg).toInt + 1 - k.toInt).toNat ≤ n →
      (∀ k' : Int32, rx_X p l e (rx_rm 3) s mm args below meth c (rg_O (rx_fin D b ca)) H0 0 0 Q 3 (rx_m (rx_fin D b ca) (rs_Corr n σ m k)) 71 [(2, .int k'), (0, .ref (rg_A (rx_fin D b ca) 66)), (1, .int m)] []) →
      rx_X p l e (rx_rm 3) s mm args below meth c (rg_O (rx_fin D b ca)) H0 0 0 Q 3 (rx_m (rx_fin D b ca) σ) 43 [(2, .int k), (0, .ref (rg_A (rx_fin D b ca) 66)), (1, .int m)] [] := by
  intro n
  induction n with
  | zero =>
    intro σ k hf kx
    refine it_Corr_resend l D b ca C hm (fun h => kx k) (fun h => ?_)
    rw [rx_ltI] at h
    omega
  | succ n ih =>
    intro σ k hf kx
    refine rx_si (fun hI => ?_)
    refine it_Corr_resend l D b ca C hm (fun h => ?_) (fun h => ?_)
    · have h2 := kx k
      rw [rs_Corr, if_pos h] at h2
      exact h2
    · refine ih _ _ ?_ (fun k' => ?_)
      · rw [fr_sendTo hI (by omega) (by omega)]
        have h3 := hI.2.2.2 _ (rx_j2 hm)
        have h4 := rx_lo k
        rw [rx_ltI] at h
        rw [rx_addI (by rw [rx_I1]; omega) (by rw [rx_I1]; omega), rx_I1]
        omega
      · have h2 := kx k'
        rw [rs_Corr, if_neg h] at h2
        exact h2
/-! Wire.remove -/
def sh_row (f : Nat → Int32) (i k : Nat) : Nat → Int32 := fun t => if i ≤ t ∧ t + 1 < k then f (t + 1) else f t
def sh_mem (σ : rMem) (i k : Nat) : rMem := fun a => if a = 2 then sh_row (σ 2) i k else σ a
theorem sh_ne {σ : rMem} {i k a : Nat} (h : a ≠ 2) : sh_mem σ i k a = σ a := if_neg h
theorem sh_2 {σ : rMem} {i k : Nat} : sh_mem σ i k 2 = sh_row (σ 2) i k := if_pos rfl
theorem sh_0 {σ : rMem} {i : Nat} : sh_mem σ i (i + 1) = σ := by
  funext a t
  by_cases h : a = 2
  · subst h
    rw [sh_2]
    exact if_neg (by omega)
  · rw [sh_ne h]
theorem sh_step {σ : rMem} {i k : Nat} (h : i + 1 ≤ k) : rx_wr (sh_mem σ i k) 2 (k - 1) (sh_mem σ i k 2 k) = sh_mem σ i (k + 1) := by
  funext a t
  by_cases ha : a = 2
  · subst ha
    rw [rx_wr_at, sh_2, sh_2]
    by_cases ht : t = k - 1
    · subst ht
      rw [if_pos ⟨rfl, rfl⟩]
      have e1 : sh_row (σ 2) i k k = σ 2 k := if_neg (by omega)
      have e2 : sh_row (σ 2) i (k + 1) (k - 1) = σ 2 (k - 1 + 1) := if_pos (by omega)
      rw [e1, e2, show k - 1 + 1 = k by omega]
    · rw [if_neg (fun h => ht h.2)]
      unfold sh_row
      by_cases h2 : i ≤ t ∧ t + 1 < k
      · rw [if_pos h2, if_pos (by omega)]
      · rw [if_neg h2, if_neg (by omega)]
  · rw [rx_wr_ne ha, sh_ne ha, sh_ne ha]
theorem rm_in {σ : rMem} {i : Int32} (hI : rx_SI σ) (hi : 0 ≤ i.toInt ∧ i.toInt < (σ 1 1).toInt) : vp_in i 41 := rx_vinI hi.1 (by have := hI.1; omega)
theorem rm_dec {σ : rMem} {i : Int32} (hI : rx_SI σ) (hi : 0 ≤ i.toInt ∧ i.toInt < (σ 1 1).toInt) : (σ 1 1 - 1).toInt = (σ 1 1).toInt - 1 := by
  have := hI.1
  rw [rx_subI (by rw [rx_I1]; omega) (by rw [rx_I1]; omega), rx_I1]
theorem rm_sz {σ : rMem} {i : Int32} {k n : Nat} (hI : rx_SI σ) (hi : 0 ≤ i.toInt ∧ i.toInt < (σ 1 1).toInt) : 0 ≤ (sh_mem σ k n 1 1 - 1).toInt ∧ (sh_mem σ k n 1 1 - 1).toInt ≤ 40 := by
  have := hI.1
  rw [sh_ne (by omega), rm_dec hI hi]
  omega
theorem rm_ix {σ : rMem} {i : Int32} {k n : Nat} (hI : rx_SI σ) (hi : 0 ≤ i.toInt ∧ i.toInt < (σ 1 1).toInt) : vp_in (rx_wr (sh_mem σ k n) 1 1 (sh_mem σ k n 1 1 - 1) 1 1) 41 := by
  have := hI.1
  rw [rx_wr_eq, sh_ne (by omega)]
  exact rx_vinI (by rw [rm_dec hI hi]; omega) (by rw [rm_dec hI hi]; omega)
theorem lp_Wire_remove1 (l : Launch) (D : va_G) (b : Nat) (ca : Nat → ClassId) {p : Program} {e : Env} {s : State} {mm : MethodId} {args : Array Value} {below : List Frame} {meth : Method} {c : Code} {H0 : Heap} {Q : State → Prop} {σ : rMem} {i : Int32} {g : Nat} (C : rx_Cw p s mm args meth c R_Wire b_Wire_remove 4 none (rx_fin D b ca)) (hI : rx_SI σ) (hi : 0 ≤ i.toInt ∧ i.toInt < (σ 1 1).toInt)
    (kx : ∀ k' : Int32, rx_X p l e (rx_rm 0) s mm args below meth c (rg_O (rx_fin D b ca)) H0 0 0 Q 4 (rx_m (rx_fin D b ca) (sh_mem σ i.toNatClampNeg (σ 1 1).toNatClampNeg)) 39 [(3, .int k'), (2, .ref (rg_A (rx_fin D b ca) g)), (0, .ref (rg_A (rx_fin D b ca) 1)), (1, .int i)] []) :
    ∀ (n : Nat) (k : Int32), (σ 1 1).toInt - k.toInt = n → i.toInt + 1 ≤ k.toInt → rx_X p l e (rx_rm 0) s mm args below meth c (rg_O (rx_fin D b ca)) H0 0 0 Q 4 (rx_m (rx_fin D b ca) (sh_mem σ i.toNatClampNeg k.toNatClampNeg)) 11 [(3, .int k), (2, .ref (rg_A (rx_fin D b ca) g)), (0, .ref (rg_A (rx_fin D b ca) 1)), (1, .int i)] [] := by
  have h40 := hI.1
  have hiN := rx_cn hi.1
  intro n
  induction n with
  | zero =>
    intro k hn hk
    have hk0 : k = σ 1 1 := rx_eqI.mpr (by omega)
    subst hk0
    have hno : ∀ {P : Prop}, ¬ sh_mem σ i.toNatClampNeg (σ 1 1).toNatClampNeg 1 1 ≤ σ 1 1 → P := fun h => absurd (by rw [sh_ne (by omega), rx_leI]; omega) h
    exact it_Wire_remove l D b ca C (fun h => hno h) (fun h => hno h) (fun h => hno h) (fun h => kx _) (fun h => hno h)
  | succ n ih =>
    intro k hn hk
    have hkN := rx_cn (x := k) (by omega)
    have hs : ¬ sh_mem σ i.toNatClampNeg k.toNatClampNeg 1 1 ≤ k := by
      rw [sh_ne (by omega), rx_leI]
      omega
    have hk1 : (k - 1).toInt = k.toInt - 1 := by rw [rx_subI (by rw [rx_I1]; omega) (by rw [rx_I1]; omega), rx_I1]
    have hk2 : (k + 1).toInt = k.toInt + 1 := by rw [rx_addI (by rw [rx_I1]; omega) (by rw [rx_I1]; omega), rx_I1]
    have hkM := rx_cn (x := k - 1) (by omega)
    have hkP := rx_cn (x := k + 1) (by omega)
    refine it_Wire_remove l D b ca C (fun h => rx_vinI (by omega) (by omega)) (fun h => rx_vinI (by omega) (by omega)) (fun h => ?_) (fun h => absurd h hs) (fun h => ?_)
    · rw [sh_2, show sh_row (σ 2) i.toNatClampNeg k.toNatClampNeg k.toNatClampNeg = σ 2 k.toNatClampNeg from if_neg (by omega)]
      exact hI.2.1 _ (by omega)
    · rw [show (k - 1).toNatClampNeg = k.toNatClampNeg - 1 by omega, sh_step (by omega), show k.toNatClampNeg + 1 = (k + 1).toNatClampNeg by omega]
      exact ih (k + 1) (by omega) (by omega)
theorem lp_Wire_remove (l : Launch) (D : va_G) (b : Nat) (ca : Nat → ClassId) {p : Program} {e : Env} {s : State} {mm : MethodId} {args : Array Value} {below : List Frame} {meth : Method} {c : Code} {H0 : Heap} {Q : State → Prop} {σ : rMem} {i : Int32} {g : Nat} (C : rx_Cw p s mm args meth c R_Wire b_Wire_remove 4 none (rx_fin D b ca)) (hI : rx_SI σ) (hi : 0 ≤ i.toInt ∧ i.toInt < (σ 1 1).toInt)
    (kx : ∀ k' : Int32, rx_X p l e (rx_rm 0) s mm args below meth c (rg_O (rx_fin D b ca)) H0 0 0 Q 4 (rx_m (rx_fin D b ca) (sh_mem σ i.toNatClampNeg (σ 1 1).toNatClampNeg)) 39 [(3, .int k'), (2, .ref (rg_A (rx_fin D b ca) g)), (0, .ref (rg_A (rx_fin D b ca) 1)), (1, .int i)] []) :
    rx_X p l e (rx_rm 0) s mm args below meth c (rg_O (rx_fin D b ca)) H0 0 0 Q 4 (rx_m (rx_fin D b ca) σ) 11 [(3, .int (i + 1)), (2, .ref (rg_A (rx_fin D b ca) g)), (0, .ref (rg_A (rx_fin D b ca) 1)), (1, .int i)] [] := by
  have h40 := hI.1
  have hiN := rx_cn hi.1
  have hk2 : (i + 1).toInt = i.toInt + 1 := by rw [rx_addI (by rw [rx_I1]; omega) (by rw [rx_I1]; omega), rx_I1]
  have hkP := rx_cn (x := i + 1) (by omega)
  have h := lp_Wire_remove1 l D b ca C hI hi kx ((σ 1 1).toInt - (i + 1).toInt).toNat (i + 1) (by omega) (by omega)
  rw [show (i + 1).toNatClampNeg = i.toNatClampNeg + 1 by omega, sh_0] at h
  exact h
