theorem nr_not {σ : rMem} (h : (σ 1 1).toInt < 40) : sp_Wire_nextRow σ = (rx_wr σ 1 1 (σ 1 1 + 1), mq σ (σ 1 1).toNatClampNeg) := by
  have e : rv_Wire_isFull σ = 0 := by
    unfold rv_Wire_isFull
    rw [if_pos (by rw [rx_ltI, rx_I40]; exact h)]
  unfold sp_Wire_nextRow
  rw [if_pos e]
  have e1 : rx_wr σ 1 1 (σ 1 1 + 1) 1 1 - 1 = σ 1 1 := by
    rw [rx_wr_eq]
    grind
  have e2 : rx_wr σ 1 1 (σ 1 1 + 1) 2 = σ 2 := rx_wr_ne (by omega)
  simp only [e1, e2]
theorem nr_full {σ : rMem} (h : ¬ (σ 1 1).toInt < 40) : sp_Wire_nextRow σ = (σ, mq σ 40) := by
  have e : ¬ rv_Wire_isFull σ = 0 := by
    unfold rv_Wire_isFull
    rw [if_neg (by rw [rx_ltI, rx_I40]; exact h)]
    decide
  unfold sp_Wire_nextRow
  rw [if_neg e]
  rfl
theorem mq_in {σ τ : rMem} (hw : r_wire σ τ) {k : Nat} (hk : k < 41) : 3 ≤ mq σ k ∧ mq σ k ≤ 43 := by
  have h1 := hw.2.1 k hk
  have h2 := rx_cn (x := σ 2 k) (by omega)
  unfold mq
  omega
theorem mq_inj {σ τ : rMem} (hw : r_wire σ τ) {k k' : Nat} (hk : k < 41) (hk' : k' < 41) (h : mq σ k = mq σ k') : k = k' := by
  have h1 := hw.2.1 k hk
  have h2 := rx_cn (x := σ 2 k) (by omega)
  have h3 := hw.2.1 k' hk'
  have h4 := rx_cn (x := σ 2 k') (by omega)
  refine hw.2.2.1 k k' hk hk' (rx_eqI.mpr ?_)
  unfold mq at h
  omega
theorem nq_in {σ τ : rMem} (hw : r_wire σ τ) : 3 ≤ (sp_Wire_nextRow σ).2 ∧ (sp_Wire_nextRow σ).2 ≤ 43 := by
  have h0 := hw.1
  have hcn := rx_cn (x := σ 1 1) (by omega)
  by_cases h : (σ 1 1).toInt < 40
  · rw [nr_not h]
    exact mq_in hw (by omega)
  · rw [nr_full h]
    exact mq_in hw (by omega)
theorem sc_any {σ τ σ' : rMem} (hw : r_wire σ τ) (h : ∀ c, c ≠ (sp_Wire_nextRow σ).2 → σ' c = (sp_Wire_nextRow σ).1 c) : sentC σ σ' (σ' (sp_Wire_nextRow σ).2) := by
  have h0 := hw.1
  have hcn := rx_cn (x := σ 1 1) (by omega)
  have hq := nq_in hw
  by_cases hf : (σ 1 1).toInt < 40
  · rw [nr_not hf] at h hq ⊢
    dsimp only at h hq ⊢
    have einc : (σ 1 1 + 1).toInt = (σ 1 1).toInt + 1 := by rw [rx_addI (by rw [rx_I1]; omega) (by rw [rx_I1]; omega), rx_I1]
    refine ⟨fun c h1 h2 => ?_, fun k hk => ?_, ?_, fun k hk => ?_, fun _ f hf2 => rfl⟩
    · rw [h c (by omega)]
      exact rx_wr_ne h1
    · rw [h 1 (by omega)]
      exact rx_wr_sl hk
    · rw [h 1 (by omega), rx_wr_eq, if_pos hf, einc]
    · have hne : mq σ k ≠ mq σ (σ 1 1).toNatClampNeg := fun e => by
        have := mq_inj hw (by omega) (by omega) e
        omega
      have hk3 := mq_in hw (k := k) (by omega)
      rw [h _ hne]
      exact rx_wr_ne (by omega)
  · rw [nr_full hf] at h hq ⊢
    dsimp only at h hq ⊢
    refine ⟨fun c h1 h2 => h c (by omega), fun k hk => ?_, ?_, fun k hk => ?_, fun h1 => absurd h1 hf⟩
    · rw [h 1 (by omega)]
    · rw [h 1 (by omega), if_neg hf]
    · refine h _ (fun e => ?_)
      have := mq_inj hw (by omega) (by omega) e
      omega
theorem sentC_ext {σ σ' : rMem} {v v' : Nat → Int32} (x : ∀ f, f < 9 → v f = v' f) (h : sentC σ σ' v) : sentC σ σ' v' :=
  ⟨h.1, h.2.1, h.2.2.1, h.2.2.2.1, fun h1 f hf => (h.2.2.2.2 h1 f hf).trans (x f hf)⟩
def vT (kd tg nw mo nu co cd lt sl : Int32) : Nat → Int32 := fun f => match f with
  | 0 => kd
  | 1 => tg
  | 2 => nw
  | 3 => mo
  | 4 => nu
  | 5 => co
  | 6 => cd
  | 7 => lt
  | _ => sl
theorem bg_at {σ : rMem} {q f : Nat} {kd tg mo nu : Int32} (hf : f < 9) : sp_Msg_begin σ q kd tg mo nu q f = vT kd tg (-1) mo nu 0 0 0 0 f := by
  simp only [sp_Msg_begin, rx_wr_at]
  match f, hf with
  | 0, _ => simp [vT]
  | 1, _ => simp [vT]
  | 2, _ => simp [vT]
  | 3, _ => simp [vT]
  | 4, _ => simp [vT]
  | 5, _ => simp [vT]
  | 6, _ => simp [vT]
  | 7, _ => simp [vT]
  | 8, _ => simp [vT]
  | f + 9, hf => omega
theorem sc_sendTo {σ τ : rMem} (hw : r_wire σ τ) {tg kd mo nu : Int32} : sentC σ (sp_Wire_sendTo σ tg kd mo nu).1 (vT kd tg (-1) mo nu 0 0 0 0) := by
  refine sentC_ext ?_ (sc_any (σ' := (sp_Wire_sendTo σ tg kd mo nu).1) hw (fun c hc => fr_begin hc))
  intro f hf
  exact bg_at hf
theorem sc_sendIn {σ τ : rMem} (hw : r_wire σ τ) {nw kd mo nu : Int32} : sentC σ (sp_Wire_sendInNetwork σ nw kd mo nu).1 (vT kd 5 nw mo nu 0 0 0 0) := by
  refine sentC_ext ?_ (sc_any (σ' := (sp_Wire_sendInNetwork σ nw kd mo nu).1) hw (fun c hc => ?_))
  · intro f hf
    show rx_wr (sp_Wire_sendTo σ 5 kd mo nu).1 (sp_Wire_nextRow σ).2 2 nw (sp_Wire_nextRow σ).2 f = _
    rw [rx_wr_at]
    by_cases h2 : f = 2
    · subst h2
      simp [vT]
    · rw [if_neg (by omega)]
      refine (bg_at hf).trans ?_
      match f, hf, h2 with
      | 0, _, _ => rfl
      | 1, _, _ => rfl
      | 3, _, _ => rfl
      | 4, _, _ => rfl
      | 5, _, _ => rfl
      | 6, _, _ => rfl
      | 7, _, _ => rfl
      | 8, _, _ => rfl
      | f + 9, hf, _ => omega
  · exact (rx_wr_ne hc).trans (fr_begin hc)
/-! the reference's send -/
def vW (kd tg m nw nu co lt cd sl : Int32) : Nat → Int32 := fun f => match f with
  | 0 => kd
  | 1 => tg
  | 2 => m
  | 3 => nw
  | 4 => nu
  | 5 => co
  | 6 => lt
  | 7 => cd
  | _ => sl
theorem sm_send {τ : rMem} (h : 0 ≤ (τ 71 4).toInt ∧ (τ 71 4).toInt ≤ 40) {kd tg m nw nu co lt cd sl : Int32} : sentM τ (sp_Mod_send τ kd tg m nw nu co lt cd sl) (vW kd tg m nw nu co lt cd sl) := by
  unfold sp_Mod_send
  by_cases h1 : (τ 71 4).toInt < 40
  · have hn := rx_cn (x := τ 71 4) (by omega)
    have i0 := ms_ix0 (i := τ 71 4) (by omega)
    have i1 := ms_ix (i := τ 71 4) (by omega) (k := 1) (by decide)
    have i2 := ms_ix (i := τ 71 4) (by omega) (k := 2) (by decide)
    have i3 := ms_ix (i := τ 71 4) (by omega) (k := 3) (by decide)
    have i4 := ms_ix (i := τ 71 4) (by omega) (k := 4) (by decide)
    have i5 := ms_ix (i := τ 71 4) (by omega) (k := 5) (by decide)
    have i6 := ms_ix (i := τ 71 4) (by omega) (k := 6) (by decide)
    have i7 := ms_ix (i := τ 71 4) (by omega) (k := 7) (by decide)
    have i8 := ms_ix (i := τ 71 4) (by omega) (k := 8) (by decide)
    have j1 : (1 : Int32).toNatClampNeg = 1 := rfl
    have j2 : (2 : Int32).toNatClampNeg = 2 := rfl
    have j3 : (3 : Int32).toNatClampNeg = 3 := rfl
    have j4 : (4 : Int32).toNatClampNeg = 4 := rfl
    have j5 : (5 : Int32).toNatClampNeg = 5 := rfl
    have j6 : (6 : Int32).toNatClampNeg = 6 := rfl
    have j7 : (7 : Int32).toNatClampNeg = 7 := rfl
    have j8 : (8 : Int32).toNatClampNeg = 8 := rfl
    rw [if_pos (by rw [rx_ltI, rx_I40]; exact h1)]
    simp only [i0, i1, i2, i3, i4, i5, i6, i7, i8, j1, j2, j3, j4, j5, j6, j7, j8]
    have einc : (τ 71 4 + 1).toInt = (τ 71 4).toInt + 1 := by rw [rx_addI (by rw [rx_I1]; omega) (by rw [rx_I1]; omega), rx_I1]
    refine ⟨fun c h2 h3 => ?_, fun k hk => ?_, ?_, fun t ht => ?_, fun _ f hf => ?_⟩
    · simp only [rx_wr_ne h2, rx_wr_ne h3]
    · rw [rx_wr_sl hk]
      simp only [rx_wr_ne (show (71 : Nat) ≠ 72 by decide)]
    · rw [rx_wr_eq]
      simp only [rx_wr_ne (show (71 : Nat) ≠ 72 by decide)]
      rw [if_pos h1, einc]
    · rw [rx_wr_ne (by decide)]
      simp only [rx_wr_at]
      rw [if_neg (by omega), if_neg (by omega), if_neg (by omega), if_neg (by omega), if_neg (by omega), if_neg (by omega), if_neg (by omega), if_neg (by omega), if_neg (by omega)]
    · rw [rx_wr_ne (by decide)]
      simp only [rx_wr_at]
      match f, hf with
      | 0, _ => simp [vW]
      | 1, _ => simp [vW]
      | 2, _ => simp [vW]
      | 3, _ => simp [vW]
      | 4, _ => simp [vW]
      | 5, _ => simp [vW]
      | 6, _ => simp [vW]
      | 7, _ => simp [vW]
      | 8, _ => simp [vW]
      | f + 9, hf => omega
  · rw [if_neg (by rw [rx_ltI, rx_I40]; exact h1)]
    exact ⟨fun _ _ _ => rfl, fun _ _ => rfl, by rw [if_neg h1], fun _ _ => rfl, fun h2 => absurd h2 h1⟩
