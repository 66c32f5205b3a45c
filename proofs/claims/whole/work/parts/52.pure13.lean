/-! a request at home -/
def rpF (x : rMem) (q : Nat) (co cd lt : Int32) (n : Nat) : rMem := rx_wr (rx_wr (rx_wr (rx_wr x q 5 co) q 6 cd) q 7 lt) q 8 (rv_Msg_replySeal (rx_wr (rx_wr (rx_wr x q 5 co) q 6 cd) q 7 lt) q (rx_wr (rx_wr (rx_wr x q 5 co) q 6 cd) q 7 lt 49 n))
theorem sc_rpF {σ τ x : rMem} (hw : r_wire σ τ) {tg nw m nu co cd lt : Int32} {n : Nat} (hx : ∀ c, c ≠ (sp_Wire_nextRow σ).2 → x c = (sp_Wire_nextRow σ).1 c) (hf : ∀ f, f < 9 → x (sp_Wire_nextRow σ).2 f = vT 3 tg nw m nu 0 0 0 0 f) : sentC σ (rpF x (sp_Wire_nextRow σ).2 co cd lt n) (vT 3 tg nw m nu co cd lt (rv_Mod_replySeal (σ 49 n) m co cd lt nu)) := by
  have hq := nq_in hw
  have e49 : rx_wr (rx_wr (rx_wr x (sp_Wire_nextRow σ).2 5 co) (sp_Wire_nextRow σ).2 6 cd) (sp_Wire_nextRow σ).2 7 lt 49 n = σ 49 n := by
    rw [rx_wr_ne (by omega), rx_wr_ne (by omega), rx_wr_ne (by omega), hx _ (by omega), fr_nextRow (by omega)]
  have h3 := hf 3 (by omega)
  have h4 := hf 4 (by omega)
  have es : rv_Msg_replySeal (rx_wr (rx_wr (rx_wr x (sp_Wire_nextRow σ).2 5 co) (sp_Wire_nextRow σ).2 6 cd) (sp_Wire_nextRow σ).2 7 lt) (sp_Wire_nextRow σ).2 (σ 49 n) = rv_Mod_replySeal (σ 49 n) m co cd lt nu := by
    rw [sl_rep]
    simp only [rx_wr_at, h3, h4]
    simp [vT]
  refine sc_on hw (fun c hc => ?_) (fun f hf2 => ?_)
  · unfold rpF
    rw [rx_wr_ne hc, rx_wr_ne hc, rx_wr_ne hc, rx_wr_ne hc, hx c hc]
  · unfold rpF
    rw [e49, es]
    simp only [rx_wr_at, hf f hf2]
    match f, hf2 with
    | 0, _ => simp [vT]
    | 1, _ => simp [vT]
    | 2, _ => simp [vT]
    | 3, _ => simp [vT]
    | 4, _ => simp [vT]
    | 5, _ => simp [vT]
    | 6, _ => simp [vT]
    | 7, _ => simp [vT]
    | 8, _ => simp [vT]
    | f + 9, hf2 => omega
theorem in_ne {σ : rMem} {nw kd mo nu : Int32} {c : Nat} (h : c ≠ (sp_Wire_nextRow σ).2) : (sp_Wire_sendInNetwork σ nw kd mo nu).1 c = (sp_Wire_nextRow σ).1 c := by
  show rx_wr (sp_Wire_sendTo σ 5 kd mo nu).1 (sp_Wire_nextRow σ).2 2 nw c = _
  rw [rx_wr_ne h, sd_ne h]
theorem in_at {σ : rMem} {nw kd mo nu : Int32} {f : Nat} (hf : f < 9) : (sp_Wire_sendInNetwork σ nw kd mo nu).1 (sp_Wire_nextRow σ).2 f = vT kd 5 nw mo nu 0 0 0 0 f := by
  show rx_wr (sp_Wire_sendTo σ 5 kd mo nu).1 (sp_Wire_nextRow σ).2 2 nw (sp_Wire_nextRow σ).2 f = _
  simp only [rx_wr_at, sd_at hf]
  match f, hf with
  | 0, _ => simp [vT]
  | 1, _ => simp [vT]
  | 2, _ => simp [vT]
  | 3, _ => simp [vT]
  | 4, _ => simp [vT]
  | 5, _ => simp [vT]
  | 6, _ => simp [vT]
  | 7, _ => simp [vT]
  | 8, _ => simp [vT]
  | f + 9, hf => omega
/-- the home agent's reply, of both sides -/
def hrC (σ : rMem) (m cd lt : Int32) : rMem := if σ 44 5 = 0 then rpF (sp_Wire_sendInNetwork σ 0 3 m (σ 44 4)).1 (sp_Wire_sendInNetwork σ 0 3 m (σ 44 4)).2 ((sp_Wire_sendInNetwork σ 0 3 m (σ 44 4)).1 44 5) cd lt m.toNatClampNeg else rpF (sp_Wire_sendTo σ (σ 44 5) 3 m (σ 44 4)).1 (sp_Wire_sendTo σ (σ 44 5) 3 m (σ 44 4)).2 ((sp_Wire_sendTo σ (σ 44 5) 3 m (σ 44 4)).1 44 5) cd lt m.toNatClampNeg
theorem RS_homeReply {J : Nat} {T : Int} {σ τ : rMem} {m cd lt : Int32} (hm : rx_iM m) (hlt : 0 ≤ lt.toInt ∧ lt.toInt ≤ 60) (hco : 0 ≤ (σ 44 5).toInt ∧ (σ 44 5).toInt ≤ 3) (h : RR J T σ τ) : RS J T σ τ (hrC σ m cd lt) (sp_Mod_send τ 3 (if σ 44 5 = 0 then 5 else σ 44 5) m 0 (σ 44 4) (σ 44 5) lt cd (rv_Mod_replySeal (τ 85 m.toNatClampNeg) m (σ 44 5) cd lt (σ 44 4))) := by
  have hn := rx_j2 hm
  have hq := nq_in h.1
  have hk := (h.2.2.2.1 _ hn).2.1.1
  unfold hrC
  rw [← hk]
  by_cases h1 : σ 44 5 = 0
  · rw [if_pos h1, if_pos h1, in_ne (by omega), fr_nextRow (by omega)]
    refine RS_send h (sc_rpF h.1 (fun c hc => in_ne hc) (fun f hf => in_at hf)) (sm_send (wire_many h.1)) ⟨hm, hlt, Or.inr (Or.inr (Or.inl ⟨rfl, Or.inr rfl, hco⟩))⟩ ⟨rfl, rfl, rfl, rfl, rfl, rfl, rfl, rfl, fun _ => rfl⟩
  · rw [if_neg h1, if_neg h1, sd_ne (by omega), fr_nextRow (by omega)]
    have h2 : (σ 44 5).toInt ≠ 0 := by rw [rx_eqI, rx_I0] at h1; exact h1
    refine RS_send h (sc_rpF h.1 (fun c hc => sd_ne hc) (fun f hf => sd_at hf)) (sm_send (wire_many h.1)) ⟨hm, hlt, Or.inr (Or.inr (Or.inl ⟨rfl, Or.inl ?_, hco⟩))⟩ ⟨rfl, rfl, rfl, rfl, rfl, rfl, rfl, rfl, fun z => ?_⟩
    · show 1 ≤ (σ 44 5).toInt ∧ (σ 44 5).toInt ≤ 3
      omega
    · have z2 : (σ 44 5).toInt = (5 : Int32).toInt := by rw [show σ 44 5 = 5 from z]
      have e5 : (5 : Int32).toInt = 5 := rfl
      omega
def hq1 (σ : rMem) (n : Nat) (g : Int32) : rMem := rx_wr (rx_wr (rx_wr σ 50 n (σ 44 4)) 51 n (rx_wr σ 50 n (σ 44 4) 44 5)) 52 n (rx_wr (rx_wr σ 50 n (σ 44 4)) 51 n (rx_wr σ 50 n (σ 44 4) 44 5) 1 2 + g)
def hg0 (σ : rMem) : Int32 := if σ 48 0 < σ 44 7 then σ 48 0 else σ 44 7
theorem hr_C {σ : rMem} {m : Int32} (hm3 : σ 44 3 = m) : sp_Home_takeRequest σ 44 = if rv_Home_judge σ 44 = 0 then hrC (hq1 σ m.toNatClampNeg (hg0 σ)) m (rv_Home_judge σ 44) (hg0 σ) else hrC σ m (rv_Home_judge σ 44) 0 := by
  subst hm3
  rfl
def hmK (τ : rMem) (m : Int32) : Int32 := if (if (τ 73 (Int32.toNatClampNeg 8)) = (rv_Mod_requestSeal (τ 85 m.toNatClampNeg) m (τ 73 (Int32.toNatClampNeg 5)) (τ 73 (Int32.toNatClampNeg 6)) (τ 73 (Int32.toNatClampNeg 4))) then 1 else 0 : Int32) = 0 then 131 else (if (τ 86 m.toNatClampNeg) < (τ 73 (Int32.toNatClampNeg 4)) then 0 else 133)
def hmG (τ : rMem) (k : Int32) : Int32 := if k = 0 then (if (τ 71 1) ≤ (τ 73 (Int32.toNatClampNeg 6)) then (τ 71 1) else (τ 73 (Int32.toNatClampNeg 6))) else 0
def hmS (τ : rMem) (m k g : Int32) : rMem := sp_Mod_send τ 3 (if (τ 73 (Int32.toNatClampNeg 5)) = 0 then 5 else (τ 73 (Int32.toNatClampNeg 5)) : Int32) m 0 (τ 73 (Int32.toNatClampNeg 4)) (τ 73 (Int32.toNatClampNeg 5)) g k (rv_Mod_replySeal (τ 85 m.toNatClampNeg) m (τ 73 (Int32.toNatClampNeg 5)) k g (τ 73 (Int32.toNatClampNeg 4)))
def hm1 (τ : rMem) (m g : Int32) : rMem := let m2 := rx_wr τ 86 m.toNatClampNeg (τ 73 (Int32.toNatClampNeg 4)); let m3 := rx_wr m2 87 m.toNatClampNeg (m2 73 (Int32.toNatClampNeg 5)); rx_wr m3 88 m.toNatClampNeg (if (m3 73 (Int32.toNatClampNeg 6)) = 0 then 0 else ((m3 71 3) + g) : Int32)
theorem hr_M {τ : rMem} {m : Int32} : sp_Mod_requestAtHome τ m = if hmK τ m = 0 then hmS (hm1 τ m (hmG τ (hmK τ m))) m (hmK τ m) (hmG τ (hmK τ m)) else hmS τ m (hmK τ m) (hmG τ (hmK τ m)) := rfl
theorem RS_request {J : Nat} {T : Int} {σ τ : rMem} {m : Int32} (hm : rx_iM m) (he : m_eq (σ 44) (τ 73)) (hm3 : σ 44 3 = m) (hlt : 0 ≤ (σ 44 7).toInt ∧ (σ 44 7).toInt ≤ 60) (hco : 0 ≤ (σ 44 5).toInt ∧ (σ 44 5).toInt ≤ 3) (hT : T ≤ 100000) (h : RR J T σ τ) : RS J T σ τ (sp_Home_takeRequest σ 44) (sp_Mod_requestAtHome τ m) := by
  have hn := rx_j2 hm
  obtain ⟨e0, e1, e2, e4, e5, e6, e7, e8, -⟩ := he
  obtain ⟨b1, b2, b3, b4⟩ := (h.2.2.2.1 _ hn).2.1
  have hlim := h.2.2.1.2.1
  have hlr := h.2.2.1.2.2.2.2
  have hclk := h.2.1
  have hK : rv_Home_judge σ 44 = hmK τ m := by
    unfold rv_Home_judge hmK
    rw [j_4, j_5, j_6, j_8, sl_req, hm3, ← e4, ← e5, ← e7, ← e8, ← b1, ← b2]
    by_cases x1 : σ 44 8 = rv_Mod_requestSeal (σ 49 m.toNatClampNeg) m (σ 44 5) (σ 44 7) (σ 44 4)
    · rw [if_pos x1, if_pos x1, if_neg (show ¬ (1 : Int32) = 0 by decide)]
    · rw [if_neg x1, if_neg x1, if_pos rfl]
  rw [hr_C hm3, hr_M, ← hK]
  generalize rv_Home_judge σ 44 = k at *
  by_cases h1 : k = 0
  · have hG : hmG τ k = hg0 σ := by
      unfold hmG hg0
      rw [if_pos h1, j_6, ← e7, ← hlim]
      by_cases x1 : σ 48 0 < σ 44 7
      · rw [if_pos x1, if_pos (by rw [rx_ltI] at x1; rw [rx_leI]; omega)]
      · rw [if_neg x1]
        by_cases x2 : σ 48 0 ≤ σ 44 7
        · rw [if_pos x2]
          rw [rx_ltI] at x1
          rw [rx_leI] at x2
          exact rx_eqI.mpr (by omega)
        · rw [if_neg x2]
    have hg : 0 ≤ (hg0 σ).toInt ∧ (hg0 σ).toInt ≤ 60 ∧ (σ 44 7 = 0 → hg0 σ = 0) := by
      unfold hg0
      rw [hlim]
      by_cases x1 : τ 71 1 < σ 44 7
      · rw [if_pos x1]
        refine ⟨by omega, by omega, fun z => ?_⟩
        rw [z, rx_ltI, rx_I0] at x1
        omega
      · rw [if_neg x1]
        exact ⟨by omega, by omega, fun z => z⟩
    rw [if_pos h1, if_pos h1, hG]
    generalize hg0 σ = g at *
    have ea : (σ 1 2 + g).toInt = (σ 1 2).toInt + g.toInt := rx_addI (by omega) (by omega)
    have eC : hq1 σ m.toNatClampNeg g = rx_wr (rx_wr (rx_wr σ 50 m.toNatClampNeg (σ 44 4)) 51 m.toNatClampNeg (σ 44 5)) 52 m.toNatClampNeg (σ 1 2 + g) := by
      unfold hq1
      simp (disch := omega) only [rx_wr_ne]
    have eM : hm1 τ m g = rx_wr (rx_wr (rx_wr τ 86 m.toNatClampNeg (σ 44 4)) 87 m.toNatClampNeg (σ 44 5)) 88 m.toNatClampNeg (if σ 44 7 = 0 then 0 else σ 1 2 + g) := by
      unfold hm1
      dsimp only
      rw [j_4, j_5, j_6]
      simp (disch := omega) only [rx_wr_ne]
      rw [← e4, ← e5, ← e7, ← h.1.2.2.2.2]
    have R1 : RR J T (hq1 σ m.toNatClampNeg g) (hm1 τ m g) := by
      rw [eC, eM]
      refine RR_hom (n := m.toNatClampNeg) h (fun c hc => ?_) (fun c k hk => ?_) (fun c hc => ?_) (fun c k hk => ?_) ?_ ?_
      · rw [rx_wr_ne (by omega), rx_wr_ne (by omega), rx_wr_ne (by omega)]
      · rw [rx_wr_sl hk, rx_wr_sl hk, rx_wr_sl hk]
      · rw [rx_wr_ne (by omega), rx_wr_ne (by omega), rx_wr_ne (by omega)]
      · rw [rx_wr_sl hk, rx_wr_sl hk, rx_wr_sl hk]
      · unfold r_home
        simp (disch := omega) only [rx_wr_ne, rx_wr_eq]
        refine ⟨b1, trivial, trivial, ?_⟩
        by_cases z : σ 44 7 = 0
        · rw [if_pos z, ea, hg.2.2 z, rx_I0]
          exact Or.inr ⟨by omega, by omega⟩
        · rw [if_neg z]
          exact Or.inl rfl
      · simp (disch := omega) only [rx_wr_ne, rx_wr_eq]
        exact hco
    have fC : ∀ c, c < 49 ∨ 52 < c → hq1 σ m.toNatClampNeg g c = σ c := by
      intro c hc
      rw [eC, rx_wr_ne (by omega), rx_wr_ne (by omega), rx_wr_ne (by omega)]
    have fM : ∀ c, c < 86 ∨ 88 < c → hm1 τ m g c = τ c := by
      intro c hc
      rw [eM, rx_wr_ne (by omega), rx_wr_ne (by omega), rx_wr_ne (by omega)]
    refine RS_tr ⟨R1, fun c hc => fC c (by omega), fun c hc => fM c (by omega)⟩ ?_
    have c44 := fC 44 (by omega)
    have S := RS_homeReply (cd := k) (lt := g) hm ⟨hg.1, hg.2.1⟩ (by rw [c44]; exact hco) R1
    unfold hmS
    rw [j_4, j_5, fM 73 (by omega), ← e4, ← e5]
    rw [c44] at S
    exact S
  · rw [if_neg h1, if_neg h1]
    have hG : hmG τ k = 0 := by
      unfold hmG
      rw [if_neg h1]
    rw [hG]
    have S := RS_homeReply (cd := k) (lt := 0) hm z60 hco h
    unfold hmS
    rw [j_4, j_5, ← e4, ← e5]
    exact S
/-! at a foreign agent -/
theorem fa_no {J : Nat} {T : Int} {σ τ : rMem} {t : Int32} (ht : 1 ≤ t.toInt ∧ t.toInt ≤ 3) (h : RR J T σ τ) : σ (54 + 4 * (t - 1).toNatClampNeg) 0 = t ∧ σ (54 + 4 * (t - 1).toNatClampNeg) 1 = τ 71 2 := by
  have i2 := (fa_ix ht iM0).2
  have q := h.2.2.1.2.2.1 _ i2
  refine ⟨?_, q.2⟩
  rw [q.1]
  have h5 : (t - 1).toInt = t.toInt - 1 := by rw [rx_subI (by rw [rx_I1]; omega) (by rw [rx_I1]; omega), rx_I1]
  have h7 := rx_cn (x := t - 1) (by omega)
  refine rx_eqI.mpr ?_
  rw [nI_toInt (by omega)]
  omega
theorem fa_tp {J : Nat} {T : Int} {σ τ : rMem} {t m : Int32} (ht : 1 ≤ t.toInt ∧ t.toInt ≤ 3) (hm : rx_iM m) (h : RR J T σ τ) : rv_Fa_takesPlace σ (t - 1).toNatClampNeg m = rv_Mod_takesPlace τ t m := by
  obtain ⟨i1, i2⟩ := fa_ix ht hm
  obtain ⟨q1, q2, q3⟩ := (h.2.2.2.2.1 _ i2 _ (rx_j2 hm)).1
  unfold rv_Fa_takesPlace rv_Mod_takesPlace rv_Fa_isVisited rv_Fa_hasEntry
  rw [i1, ← q1, ← q3, ← h.1.2.2.2.2]
  by_cases h1 : σ (54 + 4 * (t - 1).toNatClampNeg + 1) m.toNatClampNeg ≤ σ 1 2
  · have hlt : ¬ σ 1 2 < σ (54 + 4 * (t - 1).toNatClampNeg + 1) m.toNatClampNeg := by rw [rx_leI] at h1; rw [rx_ltI]; omega
    rw [if_pos h1, if_pos rfl, if_neg hlt]
    by_cases h2 : σ (54 + 4 * (t - 1).toNatClampNeg + 3) m.toNatClampNeg ≤ σ 1 2
    · rw [if_pos h2, if_pos rfl]
    · rw [if_neg h2, if_neg (show ¬ (1 : Int32) = 0 by decide)]
  · have hlt : σ 1 2 < σ (54 + 4 * (t - 1).toNatClampNeg + 1) m.toNatClampNeg := by rw [rx_leI] at h1; rw [rx_ltI]; omega
    rw [if_neg h1, if_neg (show ¬ (1 : Int32) = 0 by decide), if_pos hlt]
theorem fa_cr {J : Nat} {T : Int} {σ τ : rMem} {t : Int32} (ht : 1 ≤ t.toInt ∧ t.toInt ≤ 3) (h : RR J T σ τ) : rv_Fa_isCrowded σ (t - 1).toNatClampNeg = 0 ↔ ((if (rv_Mod_takesPlace τ t 0) = 0 then 0 else 1 : Int32) + (if (rv_Mod_takesPlace τ t 1) = 0 then 0 else 1 : Int32)) < (τ 71 2) := by
  unfold rv_Fa_isCrowded
  rw [fa_tp ht iM0 h, fa_tp ht iM1 h, (fa_no ht h).2]
  have z0 : (0 : Int32) + 0 = 0 := rfl
  have z1 : (0 : Int32) + 1 = 1 := rfl
  have z2 : (1 : Int32) + 0 = 1 := rfl
  have z3 : (1 : Int32) + 1 = 2 := rfl
  have n1 : ¬ (1 : Int32) = 0 := by decide
  by_cases h0 : rv_Mod_takesPlace τ t 0 = 0
  · rw [if_pos h0, if_pos h0]
    by_cases h1 : rv_Mod_takesPlace τ t 1 = 0
    · rw [if_pos h1, if_pos h1, z0]
      by_cases x : 0 < τ 71 2
      · rw [if_pos x]; exact ⟨fun _ => x, fun _ => rfl⟩
      · rw [if_neg x]; exact ⟨fun q => absurd q n1, fun q => absurd q x⟩
    · rw [if_neg h1, if_neg h1, z1]
      by_cases x : 1 < τ 71 2
      · rw [if_pos x]; exact ⟨fun _ => x, fun _ => rfl⟩
      · rw [if_neg x]; exact ⟨fun q => absurd q n1, fun q => absurd q x⟩
  · rw [if_neg h0, if_neg h0]
    by_cases h1 : rv_Mod_takesPlace τ t 1 = 0
    · rw [if_pos h1, if_pos h1, z2]
      by_cases x : 1 < τ 71 2
      · rw [if_pos x]; exact ⟨fun _ => x, fun _ => rfl⟩
      · rw [if_neg x]; exact ⟨fun q => absurd q n1, fun q => absurd q x⟩
    · rw [if_neg h1, if_neg h1, z3]
      by_cases x : 2 < τ 71 2
      · rw [if_pos x]; exact ⟨fun _ => x, fun _ => rfl⟩
      · rw [if_neg x]; exact ⟨fun q => absurd q n1, fun q => absurd q x⟩
def vO (u : Nat → Int32) (tg nw : Int32) : Nat → Int32 := fun f => if f = 1 then tg else if f = 2 then nw else u f
theorem sc_on44 {σ τ : rMem} (hw : r_wire σ τ) {tg nw : Int32} : sentC σ (sp_Wire_sendOn σ 44 tg nw) (vO (σ 44) tg nw) := by
  have hq := nq_in hw
  refine sc_on hw (fun c hc => ?_) (fun f hf => ?_)
  · show rx_wr (rx_wr (sp_Msg_copyFrom (sp_Wire_nextRow σ).1 (sp_Wire_nextRow σ).2 44) (sp_Wire_nextRow σ).2 1 tg) (sp_Wire_nextRow σ).2 2 nw c = _
    rw [rx_wr_ne hc, rx_wr_ne hc, cp_ne hc]
  · show rx_wr (rx_wr (sp_Msg_copyFrom (sp_Wire_nextRow σ).1 (sp_Wire_nextRow σ).2 44) (sp_Wire_nextRow σ).2 1 tg) (sp_Wire_nextRow σ).2 2 nw (sp_Wire_nextRow σ).2 f = _
    simp only [rx_wr_at, cp_at (show 44 ≠ (sp_Wire_nextRow σ).2 by omega) hf]
    rw [fr_nextRow (by omega)]
    unfold vO
    by_cases h2 : f = 2
    · subst h2
      simp
    · by_cases h1 : f = 1
      · subst h1
        simp
      · simp [h1, h2]
theorem RS_entry {J : Nat} {T : Int} {σ τ : rMem} {t m x y z : Int32} (ht : 1 ≤ t.toInt ∧ t.toInt ≤ 3) (hm : rx_iM m) (hz : 0 ≤ z.toInt ∧ z.toInt ≤ (σ 1 2).toInt + 60) (h : RR J T σ τ) : RS J T σ τ (rx_wr (rx_wr (rx_wr σ (54 + 4 * (t - 1).toNatClampNeg + 2) m.toNatClampNeg x) (54 + 4 * (t - 1).toNatClampNeg + 3) m.toNatClampNeg y) (54 + 4 * (t - 1).toNatClampNeg + 1) m.toNatClampNeg z) (rx_wr (rx_wr (rx_wr τ 90 (2 * t + m).toNatClampNeg x) 91 (2 * t + m).toNatClampNeg y) 89 (2 * t + m).toNatClampNeg z) := by
  obtain ⟨i1, i2⟩ := fa_ix ht hm
  have hn := rx_j2 hm
  rw [i1]
  refine ⟨RR_fas i2 hn h (fun c hc => ?_) (fun c k hk => ?_) (fun c hc => ?_) (fun c k hk => ?_) ?_ ?_, fun c hc => ?_, fun c hc => ?_⟩
  · rw [rx_wr_ne (by omega), rx_wr_ne (by omega), rx_wr_ne (by omega)]
  · rw [rx_wr_sl hk, rx_wr_sl hk, rx_wr_sl hk]
  · rw [rx_wr_ne (by omega), rx_wr_ne (by omega), rx_wr_ne (by omega)]
  · rw [rx_wr_sl hk, rx_wr_sl hk, rx_wr_sl hk]
  · unfold r_fa
    simp (disch := omega) only [rx_wr_ne, rx_wr_eq]
    exact ⟨trivial, trivial, trivial⟩
  · simp (disch := omega) only [rx_wr_ne, rx_wr_eq]
    exact hz
  · rw [rx_wr_ne (by omega), rx_wr_ne (by omega), rx_wr_ne (by omega)]
  · rw [rx_wr_ne (by omega), rx_wr_ne (by omega), rx_wr_ne (by omega)]
