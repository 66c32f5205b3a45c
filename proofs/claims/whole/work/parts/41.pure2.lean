theorem im_or {m : Int32} (h : rx_iM m) : m = 0 ∨ m = 1 := by
  obtain ⟨h1, h2⟩ := h
  rcases (show m.toInt = 0 ∨ m.toInt = 1 by omega) with h | h
  · exact Or.inl (rx_eqI.mpr (by rw [rx_I0]; exact h))
  · exact Or.inr (rx_eqI.mpr (by rw [rx_I1]; exact h))
theorem im_yes {m : Int32} (h : rx_iM m) : (¬ rv_Net_isMobile m = 0) ∧ ¬ rv_Mod_isMobile m = 0 := by
  rcases im_or h with rfl | rfl <;> exact ⟨by decide, by decide⟩
theorem im_no {m : Int32} (h : ¬ rx_iM m) : rv_Net_isMobile m = 0 ∧ rv_Mod_isMobile m = 0 :=
  ⟨Classical.byContradiction fun q => h (rm_Net q), Classical.byContradiction fun q => h (rm_Mod q)⟩
theorem in_yes {x lo hi : Int32} (h : lo.toInt ≤ x.toInt ∧ x.toInt ≤ hi.toInt) : ¬ rv_Net_isWithin x lo hi = 0 := by
  unfold rv_Net_isWithin
  rw [if_neg (by rw [rx_ltI]; omega), if_neg (by rw [rx_ltI]; omega)]
  decide
theorem in_no {x lo hi : Int32} (h : ¬ (lo.toInt ≤ x.toInt ∧ x.toInt ≤ hi.toInt)) : rv_Net_isWithin x lo hi = 0 := by
  unfold rv_Net_isWithin
  by_cases h1 : x < lo
  · rw [if_pos h1]
  · rw [if_neg h1, if_pos (by rw [rx_ltI] at h1 ⊢; omega)]
theorem s0_life (x d : Int32) : (if rv_Net_isWithin x 6 60 = 0 then d else x) = if x < 6 then d else (if 60 < x then d else x) := by
  unfold rv_Net_isWithin
  by_cases h1 : x < 6
  · rw [if_pos h1, if_pos h1, if_pos rfl]
  · rw [if_neg h1, if_neg h1]
    by_cases h2 : 60 < x
    · rw [if_pos h2, if_pos h2, if_pos rfl]
    · rw [if_neg h2, if_neg h2, if_neg (by decide)]
theorem s0_range (x d : Int32) (hd : 6 ≤ d.toInt ∧ d.toInt ≤ 60) : 6 ≤ (if x < 6 then d else (if 60 < x then d else x)).toInt ∧ (if x < 6 then d else (if 60 < x then d else x)).toInt ≤ 60 := by
  have e6 : (6 : Int32).toInt = 6 := rfl
  have e60 : (60 : Int32).toInt = 60 := rfl
  by_cases h1 : x < 6
  · rw [if_pos h1]; exact hd
  · rw [if_neg h1]
    by_cases h2 : 60 < x
    · rw [if_pos h2]; exact hd
    · rw [if_neg h2]
      rw [rx_ltI, e6] at h1
      rw [rx_ltI, e60] at h2
      omega
theorem s0_w (x y z : Int32) : r_wire (rx_s0 x y z) (rx_s0 x y z) := by
  have a : 0 ≤ (0 : Int32).toInt ∧ (0 : Int32).toInt ≤ 40 := by decide
  have z1 : 0 ≤ (0 : Int32).toInt := by decide
  have z2 : (0 : Int32).toInt ≤ (0 : Int32).toInt := by decide
  have z3 : (0 : Int32).toInt ≤ 200 := by decide
  have z4 : (0 : Int32).toInt ≤ (0 : Int32).toInt + ((0 : Nat) : Int) := by decide
  have z5 : (0 : Int32).toInt ≤ 3 := by decide
  have z6 : (0 : Int32).toInt ≤ (0 : Int32).toInt + 60 := by decide
  have z7 : (0 : Int32).toInt ≤ 20 * ((0 : Nat) : Int) := by decide
  refine ⟨a, fun k hk => ?_, fun k k' hk hk' e => ?_, rfl, rfl⟩
  · show 1 ≤ (nI (k + 1)).toInt ∧ (nI (k + 1)).toInt ≤ 41
    rw [nI_toInt (by omega)]
    omega
  · have e2 : nI (k + 1) = nI (k' + 1) := e
    have := (nI_eq (by omega) (by omega)).mp e2
    omega
theorem s0_c1 (x y z : Int32) : ∀ m, m < 2 → rx_s0 x y z (46 + m) 0 = nI m ∧ rx_s0 x y z (46 + m) 1 = rx_s0 x y z 71 0 := by
  intro m hm
  match m, hm with
  | 0, _ => exact ⟨rfl, s0_life x 20⟩
  | 1, _ => exact ⟨rfl, s0_life x 20⟩
  | m + 2, hm => omega
theorem s0_c2 (x y z : Int32) : ∀ a, a < 3 → rx_s0 x y z (54 + 4 * a) 0 = nI (a + 1) ∧ rx_s0 x y z (54 + 4 * a) 1 = rx_s0 x y z 71 2 := by
  intro a ha
  match a, ha with
  | 0, _ => exact ⟨rfl, rfl⟩
  | 1, _ => exact ⟨rfl, rfl⟩
  | 2, _ => exact ⟨rfl, rfl⟩
  | a + 3, ha => omega
theorem s0_c (x y z : Int32) : r_const (rx_s0 x y z) (rx_s0 x y z) := ⟨s0_c1 x y z, s0_life y 30, s0_c2 x y z, s0_range x 20 (by decide), s0_range y 30 (by decide)⟩
theorem s0_m (x y z : Int32) : ∀ m, m < 2 → r_mob (rx_s0 x y z) (rx_s0 x y z) m := by
  intro m hm
  match m, hm with
  | 0, _ => simp [r_mob, rx_s0, s0_mob, s0_two]
  | 1, _ => simp [r_mob, rx_s0, s0_mob, s0_two]
  | m + 2, hm => omega
theorem s0_h (x y z : Int32) : ∀ m, m < 2 → r_home (rx_s0 x y z) (rx_s0 x y z) m ∧ r_corr (rx_s0 x y z) (rx_s0 x y z) m := by
  intro m hm
  match m, hm with
  | 0, _ => simp [r_home, r_corr, rx_s0]
  | 1, _ => simp [r_home, r_corr, rx_s0]
  | m + 2, hm => omega
theorem s0_r (x y z : Int32) : ∀ m, m < 2 → r_rng 0 (rx_s0 x y z) m := by
  have a : 0 ≤ (0 : Int32).toInt ∧ (0 : Int32).toInt ≤ 40 := by decide
  have z1 : 0 ≤ (0 : Int32).toInt := by decide
  have z2 : (0 : Int32).toInt ≤ (0 : Int32).toInt := by decide
  have z3 : (0 : Int32).toInt ≤ 200 := by decide
  have z4 : (0 : Int32).toInt ≤ (0 : Int32).toInt + ((0 : Nat) : Int) := by decide
  have z5 : (0 : Int32).toInt ≤ 3 := by decide
  have z6 : (0 : Int32).toInt ≤ (0 : Int32).toInt + 60 := by decide
  have z7 : (0 : Int32).toInt ≤ 20 * ((0 : Nat) : Int) := by decide
  intro m hm
  match m, hm with
  | 0, _ => simp [r_rng, rx_s0, s0_mob]
  | 1, _ => simp [r_rng, rx_s0, s0_mob]
  | m + 2, hm => omega
theorem s0_f (x y z : Int32) : ∀ a, a < 3 → ∀ m, m < 2 → r_fa (rx_s0 x y z) (rx_s0 x y z) a m ∧ (0 ≤ (rx_s0 x y z (54 + 4 * a + 1) m).toInt ∧ (rx_s0 x y z (54 + 4 * a + 1) m).toInt ≤ (rx_s0 x y z 1 2).toInt + 60) := by
  intro a ha m hm
  match a, ha with
  | 0, _ => simp [r_fa, rx_s0]
  | 1, _ => simp [r_fa, rx_s0]
  | 2, _ => simp [r_fa, rx_s0]
  | a + 3, ha => omega
theorem sR_0 (x y z : Int32) : sR 0 (rx_s0 x y z) := by
  have a : 0 ≤ (0 : Int32).toInt ∧ (0 : Int32).toInt ≤ 40 := by decide
  have z1 : 0 ≤ (0 : Int32).toInt := by decide
  have z2 : (0 : Int32).toInt ≤ (0 : Int32).toInt := by decide
  have z3 : (0 : Int32).toInt ≤ 200 := by decide
  have z4 : (0 : Int32).toInt ≤ (0 : Int32).toInt + ((0 : Nat) : Int) := by decide
  have z5 : (0 : Int32).toInt ≤ 3 := by decide
  have z6 : (0 : Int32).toInt ≤ (0 : Int32).toInt + 60 := by decide
  have z7 : (0 : Int32).toInt ≤ 20 * ((0 : Nat) : Int) := by decide
  refine ⟨s0_w x y z, ⟨z1, z7⟩, s0_c x y z, fun m hm => ⟨s0_m x y z m hm, (s0_h x y z m hm).1, (s0_h x y z m hm).2, s0_r x y z m hm⟩, s0_f x y z, fun k hk => ?_⟩
  have hk2 : (k : Int) < (0 : Int32).toInt := hk
  omega
theorem ok_1 : ok_messages sR := fun j σ h hj => ⟨h.1.2.2.2.1, sR_same h⟩
theorem ok_2 : ok_place sR := by
  intro j σ m h hj
  refine ⟨?_, sR_same h⟩
  unfold rv_Net_place rv_Mod_place
  by_cases hm : rx_iM m
  · rw [if_neg (im_yes hm).1, if_neg (im_yes hm).2]
    exact (h.2.2.2.1 _ (rx_j2 hm)).1.2.1
  · rw [if_pos (im_no hm).1, if_pos (im_no hm).2]
theorem ok_3 : ok_registered sR := by
  intro j σ m h hj
  refine ⟨?_, sR_same h⟩
  unfold rv_Net_registered rv_Mod_registered
  by_cases hm : rx_iM m
  · rw [if_neg (im_yes hm).1, if_neg (im_yes hm).2]
    exact (h.2.2.2.1 _ (rx_j2 hm)).1.2.2.2.1
  · rw [if_pos (im_no hm).1, if_pos (im_no hm).2]
theorem ok_4 : ok_open sR := by
  intro j σ m h hj
  refine ⟨?_, sR_same h⟩
  unfold rv_Net_open rv_Mod_open
  by_cases hm : rx_iM m
  · rw [if_neg (im_yes hm).1, if_neg (im_yes hm).2]
    exact (h.2.2.2.1 _ (rx_j2 hm)).1.2.2.2.2.2.2.2.1
  · rw [if_pos (im_no hm).1, if_pos (im_no hm).2]
theorem ok_5 : ok_binding sR := by
  intro j σ m h hj
  refine ⟨?_, sR_same h⟩
  unfold rv_Net_binding rv_Mod_binding rv_Home_isBound
  by_cases hm : rx_iM m
  · rw [if_neg (im_yes hm).1, if_neg (im_yes hm).2]
    obtain ⟨-, -, hc, hb⟩ := (h.2.2.2.1 _ (rx_j2 hm)).2.1
    rw [← h.1.2.2.2.2, ← hc]
    rcases hb with hb | hb
    · rw [← hb]
      by_cases h1 : σ 52 m.toNatClampNeg ≤ σ 1 2
      · rw [if_pos h1, if_pos rfl, if_pos h1]
      · rw [if_neg h1, if_neg (by decide), if_neg h1]
    · rw [if_pos (rx_leI.mpr hb.1), if_pos rfl, if_pos (rx_leI.mpr hb.2)]
  · rw [if_pos (im_no hm).1, if_pos (im_no hm).2]
theorem ok_6 : ok_count sR := by
  intro j σ w m h hj
  refine ⟨?_, sR_same h⟩
  unfold rv_Net_count rv_Mod_count
  by_cases hm : rx_iM m
  · rw [if_neg (im_yes hm).1, if_neg (im_yes hm).2]
    have q := h.2.2.2.1 _ (rx_j2 hm)
    obtain ⟨c1, c2, c3, c4⟩ := q.2.2.1
    have r1 := q.1.2.2.2.2.2.2.2.2.2.2
    by_cases h0 : w = 0
    · subst h0
      rw [if_pos rfl, if_neg (by decide), if_pos (by decide), if_pos rfl]
      exact r1
    · rw [if_neg h0]
      by_cases h1 : w = 1
      · subst h1
        rw [if_pos rfl, if_neg (by decide), if_pos (by decide), if_neg (by decide), if_pos rfl]
        exact c2
      · rw [if_neg h1]
        by_cases h2 : w = 2
        · subst h2
          rw [if_pos rfl, if_neg (by decide), if_pos (by decide), if_neg (by decide), if_neg (by decide), if_pos rfl]
          exact c3
        · rw [if_neg h2]
          by_cases h3 : w = 3
          · subst h3
            rw [if_pos rfl, if_neg (by decide), if_pos (by decide), if_neg (by decide), if_neg (by decide), if_neg (by decide)]
            exact c1
          · rw [if_neg h3]
            by_cases h4 : w < 0
            · rw [if_pos h4]
            · rw [if_neg h4, if_neg ?_]
              have e1 : (1 : Int32).toInt = 1 := rfl
              have e2 : (2 : Int32).toInt = 2 := rfl
              have e3 : (3 : Int32).toInt = 3 := rfl
              rw [rx_eqI] at h0 h1 h2 h3
              rw [rx_ltI] at h4
              rw [rx_leI]
              rw [rx_I0] at h0 h4
              omega
  · rw [if_pos (im_no hm).1, if_pos (im_no hm).2]
theorem fa_ix {a m : Int32} (ha : 1 ≤ a.toInt ∧ a.toInt ≤ 3) (hm : rx_iM m) : (2 * a + m).toNatClampNeg = 2 * ((a - 1).toNatClampNeg + 1) + m.toNatClampNeg ∧ (a - 1).toNatClampNeg < 3 := by
  have e : (2 : Int32).toInt = 2 := rfl
  have h1 : (2 * a).toInt = 2 * a.toInt := by rw [rx_mulI (by rw [e]; omega) (by rw [e]; omega), e]
  obtain ⟨h2, h3⟩ := hm
  have h4 : (2 * a + m).toInt = 2 * a.toInt + m.toInt := by rw [rx_addI (by rw [h1]; omega) (by rw [h1]; omega), h1]
  have h5 : (a - 1).toInt = a.toInt - 1 := by rw [rx_subI (by rw [rx_I1]; omega) (by rw [rx_I1]; omega), rx_I1]
  have h6 := rx_cn (x := 2 * a + m) (by omega)
  have h7 := rx_cn (x := a - 1) (by omega)
  have h8 := rx_cn (x := m) (by omega)
  omega
theorem ok_7 : ok_visit sR := by
  intro j σ a m h hj
  refine ⟨?_, sR_same h⟩
  have e3 : (3 : Int32).toInt = 3 := rfl
  unfold rv_Net_visit rv_Mod_visit
  by_cases hm : rx_iM m
  · rw [if_neg (im_yes hm).1, if_neg (im_yes hm).2]
    by_cases ha : 1 ≤ a.toInt ∧ a.toInt ≤ 3
    · have hag : ¬ rv_Net_isAgent a = 0 := in_yes (by rw [rx_I0, e3]; omega)
      have ha0 : ¬ a = 0 := by rw [rx_eqI, rx_I0]; omega
      have n1 : ¬ a < 1 := by rw [rx_ltI, rx_I1]; omega
      have p3 : a ≤ 3 := by rw [rx_leI, e3]; omega
      rw [if_neg hag, if_neg ha0, if_neg n1, if_pos p3]
      obtain ⟨i1, i2⟩ := fa_ix ha hm
      obtain ⟨q, v1, v2⟩ := h.2.2.2.2.1 _ i2 _ (rx_j2 hm)
      have ec := h.1.2.2.2.2
      have hc := h.2.1
      have hT : (20 * (j : Int)) ≤ 10240 := by omega
      rw [i1, ← q.1, ← ec]
      unfold rv_Fa_isVisited
      have es : (σ (54 + 4 * (a - 1).toNatClampNeg + 1) m.toNatClampNeg - σ 1 2).toInt = (σ (54 + 4 * (a - 1).toNatClampNeg + 1) m.toNatClampNeg).toInt - (σ 1 2).toInt := rx_subI (by omega) (by omega)
      by_cases h1 : σ (54 + 4 * (a - 1).toNatClampNeg + 1) m.toNatClampNeg ≤ σ 1 2
      · rw [if_pos h1, if_pos rfl, if_pos (by rw [rx_leI, es, rx_I0]; rw [rx_leI] at h1; omega)]
      · rw [if_neg h1, if_neg (by decide), if_neg (by rw [rx_leI, es, rx_I0]; rw [rx_leI] at h1; omega)]
    · have hl : (if rv_Net_isAgent a = 0 then (0 : Int32) else (if a = 0 then 0 else (if rv_Fa_isVisited σ ((a - 1).toNatClampNeg) m = 0 then 0 else σ (54 + 4 * (a - 1).toNatClampNeg + 1) m.toNatClampNeg - σ 1 2))) = 0 := by
        by_cases h1 : rv_Net_isAgent a = 0
        · rw [if_pos h1]
        · rw [if_neg h1]
          have h2 := rm_Agent h1
          rw [if_pos (by rw [rx_eqI, rx_I0]; omega)]
      rw [hl]
      by_cases h1 : a < 1
      · rw [if_pos h1]
      · rw [if_neg h1, if_neg ?_]
        rw [rx_ltI, rx_I1] at h1
        rw [rx_leI, e3]
        omega
  · rw [if_pos (im_no hm).1, if_pos (im_no hm).2]
    by_cases h1 : rv_Net_isAgent a = 0
    · rw [if_pos h1]
    · rw [if_neg h1]
      by_cases h2 : a = 0
      · rw [if_pos h2]
      · rw [if_neg h2]
theorem hm_iff {σ τ : rMem} (h : σ 1 1 = τ 71 4) (i : Int32) : rv_Wire_holds σ i = rv_Mod_isMessage τ i := by
  unfold rv_Wire_holds rv_Mod_isMessage
  rw [h]
theorem ms_ix {i : Int32} (hi : 0 ≤ i.toInt ∧ i.toInt ≤ 1000) {k : Int32} (hk : 0 ≤ k.toInt ∧ k.toInt ≤ 8) : (9 * i + k).toNatClampNeg = 9 * i.toNatClampNeg + k.toNatClampNeg := by
  have h1 := rx_9kI hi hk
  have h2 := rx_cn (x := 9 * i + k) (by omega)
  have h3 := rx_cn (x := i) (by omega)
  have h4 := rx_cn (x := k) (by omega)
  omega
theorem ms_ix0 {i : Int32} (hi : 0 ≤ i.toInt ∧ i.toInt ≤ 1000) : (9 * i).toNatClampNeg = 9 * i.toNatClampNeg := by
  have h1 := rx_9I hi
  have h2 := rx_cn (x := 9 * i) (by omega)
  have h3 := rx_cn (x := i) (by omega)
  omega
theorem ok_8 : ok_message sR := by
  intro j σ i h hj
  refine ⟨?_, sR_same h⟩
  unfold rv_Net_message rv_Mod_message
  rw [hm_iff h.1.2.2.2.1 i]
  by_cases h1 : rv_Mod_isMessage σ i = 0
  · rw [if_pos h1, if_pos h1]
  · rw [if_neg h1, if_neg h1]
    have g := rh_Mod h1
    have hs := h.1.1
    have e := h.1.2.2.2.1
    rw [← e] at g
    have hn := rx_cn (x := i) (by omega)
    obtain ⟨-, q0, q1, q2, q3, -⟩ := h.2.2.2.2.2 i.toNatClampNeg (by omega)
    unfold rv_Msg_summary
    rw [ms_ix0 (by omega), ms_ix (by omega) (by decide), ms_ix (by omega) (by decide), ms_ix (by omega) (by decide)]
    have q0 : σ (2 + (σ 2 i.toNatClampNeg).toNatClampNeg) 0 = σ 72 (9 * i.toNatClampNeg) := q0
    have q1 : σ (2 + (σ 2 i.toNatClampNeg).toNatClampNeg) 1 = σ 72 (9 * i.toNatClampNeg + (1 : Int32).toNatClampNeg) := q1
    have q2 : σ (2 + (σ 2 i.toNatClampNeg).toNatClampNeg) 3 = σ 72 (9 * i.toNatClampNeg + (2 : Int32).toNatClampNeg) := q2
    have q3 : σ (2 + (σ 2 i.toNatClampNeg).toNatClampNeg) 4 = σ 72 (9 * i.toNatClampNeg + (4 : Int32).toNatClampNeg) := q3
    rw [q0, q1, q2, q3]
