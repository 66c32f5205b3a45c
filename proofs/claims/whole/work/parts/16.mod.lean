def rv_Mod_isMobile (m : Int32) : Int32 := if m = 0 then 1 else (if m = 1 then 1 else 0)
set_option maxHeartbeats 4000000 in
set_option maxRecDepth 100000 in
theorem c_Mod_isMobile (l : Launch) {m : Int32} : rx_S l y_Mod_isMobile b_Mod_isMobile 1 (some .boolean) (rx_rm 0) [.int m] (.int (rv_Mod_isMobile m)) := by
  refine rx_ofS (lo := [(0, .int m)]) (by decide) rfl (Nat.le_of_ble_eq_true rfl) rfl ?_
  intro p e s mm below meth c C0
  have C := And.intro C0 True.intro
  refine rx_iload_n C.1 (pc := 0) d_Mod_isMobile_0 rfl ?_
  refine rx_if_eq C.1 (pc := 1) d_Mod_isMobile_1 (tgt := 9) rfl (fun h1 => ?_) (fun h1 => ?_)
  ·
    refine rx_iconst C.1 (v := 1) (pc := 9) d_Mod_isMobile_9 (by decide) ?_
    refine rx_goto C.1 (pc := 10) d_Mod_isMobile_10 (tgt := 14) rfl ?_
    exact rx_zretS C.1 (pc := 14) d_Mod_isMobile_14 (Or.inr rfl) (by unfold rv_Mod_isMobile; first | (simp only [if_pos h1]; done) | (simp only [if_pos h1]; rfl)) 
  ·
    refine rx_iload_n C.1 (pc := 4) d_Mod_isMobile_4 rfl ?_
    refine rx_iconst C.1 (v := 1) (pc := 5) d_Mod_isMobile_5 (by decide) ?_
    refine rx_icmp_ne C.1 (pc := 6) d_Mod_isMobile_6 (tgt := 13) rfl (fun h2 => ?_) (fun h2 => ?_)
    ·
      refine rx_iconst C.1 (v := 0) (pc := 13) d_Mod_isMobile_13 (by decide) ?_
      exact rx_zretS C.1 (pc := 14) d_Mod_isMobile_14 (Or.inl rfl) (by unfold rv_Mod_isMobile; first | (simp only [if_neg h1, if_neg h2]; done) | (simp only [if_neg h1, if_neg h2]; rfl)) 
    ·
      refine rx_iconst C.1 (v := 1) (pc := 9) d_Mod_isMobile_9 (by decide) ?_
      refine rx_goto C.1 (pc := 10) d_Mod_isMobile_10 (tgt := 14) rfl ?_
      exact rx_zretS C.1 (pc := 14) d_Mod_isMobile_14 (Or.inr rfl) (by unfold rv_Mod_isMobile; first | (simp only [if_neg h1, if_pos h2]; done) | (simp only [if_neg h1, if_pos h2]; rfl)) 
theorem rm_Mod {m : Int32} (h : ¬ rv_Mod_isMobile m = 0) : rx_iM m := by
  unfold rv_Mod_isMobile at h
  by_cases h1 : m = 0
  · subst h1
    exact rx_iM0
  · rw [if_neg h1] at h
    by_cases h2 : m = 1
    · subst h2
      exact rx_iM1
    · first | (rw [if_neg h2] at h; exact absurd rfl h) | (rw [if_pos h2] at h; exact absurd rfl h)

def rv_Mod_mixed (h : Int32) (x : Int32) : Int32 := (((h ^^^ x) * 16777619) ^^^ (((h ^^^ x) * 16777619).toUInt32 >>> ((15 : Int32).toUInt32 &&& Int32.toUInt32 31)).toInt32)
set_option maxHeartbeats 4000000 in
set_option maxRecDepth 100000 in
theorem c_Mod_mixed (l : Launch) {h : Int32} {x : Int32} : rx_S l y_Mod_mixed b_Mod_mixed 3 (some .int) (rx_rm 0) [.int h, .int x] (.int (rv_Mod_mixed h x)) := by
  refine rx_ofS (lo := [(0, .int h), (1, .int x)]) (by decide) rfl (Nat.le_of_ble_eq_true rfl) rfl ?_
  intro p e s mm below meth c C0
  have C := And.intro C0 True.intro
  refine rx_iload_n C.1 (pc := 0) d_Mod_mixed_0 rfl ?_
  refine rx_iload_n C.1 (pc := 1) d_Mod_mixed_1 rfl ?_
  refine rx_ixor C.1 (pc := 2) d_Mod_mixed_2 ?_
  refine rx_ldc C.1 (v := 16777619) k_Mod_96 (pc := 3) d_Mod_mixed_3 ?_
  refine rx_imul C.1 (pc := 5) d_Mod_mixed_5 ?_
  refine rx_istore_n C.1 (pc := 6) d_Mod_mixed_6 (by decide) ?_
  refine rx_iload_n C.1 (pc := 7) d_Mod_mixed_7 rfl ?_
  refine rx_iload_n C.1 (pc := 8) d_Mod_mixed_8 rfl ?_
  refine rx_bipush C.1 (v := 15) (pc := 9) d_Mod_mixed_9 (by decide) ?_
  refine rx_iushr C.1 (pc := 11) d_Mod_mixed_11 rfl ?_
  refine rx_ixor C.1 (pc := 12) d_Mod_mixed_12 ?_
  exact rx_iretS C.1 (pc := 13) d_Mod_mixed_13 (by first | rfl | (unfold rv_Mod_mixed; rfl)) 

def rv_Mod_requestSeal (sc : Int32) (m : Int32) (co : Int32) (lt : Int32) (id : Int32) : Int32 := (rv_Mod_mixed (rv_Mod_mixed (rv_Mod_mixed (rv_Mod_mixed (rv_Mod_mixed sc 2) m) co) lt) id)
set_option maxHeartbeats 4000000 in
set_option maxRecDepth 100000 in
theorem c_Mod_requestSeal (l : Launch) {sc : Int32} {m : Int32} {co : Int32} {lt : Int32} {id : Int32} : rx_S l y_Mod_requestSeal b_Mod_requestSeal 5 (some .int) (rx_rm 1) [.int sc, .int m, .int co, .int lt, .int id] (.int (rv_Mod_requestSeal sc m co lt id)) := by
  refine rx_ofS (lo := [(0, .int sc), (1, .int m), (2, .int co), (3, .int lt), (4, .int id)]) (by decide) rfl (Nat.le_of_ble_eq_true rfl) rfl ?_
  intro p e s mm below meth c C0
  have C := And.intro C0 True.intro
  refine rx_iload_n C.1 (pc := 0) d_Mod_requestSeal_0 rfl ?_
  refine rx_iconst C.1 (v := 2) (pc := 1) d_Mod_requestSeal_1 (by decide) ?_
  refine q_Mod_97 C.1 (pc := 2) d_Mod_requestSeal_2 (c_Mod_mixed l ) ⟨Nat.le_of_ble_eq_true rfl, Nat.le_of_ble_eq_true rfl⟩ ⟨Nat.zero_le _, Nat.zero_le _⟩ (Nat.le_of_ble_eq_true rfl) ?_
  refine rx_iload_n C.1 (pc := 5) d_Mod_requestSeal_5 rfl ?_
  refine q_Mod_97 C.1 (pc := 6) d_Mod_requestSeal_6 (c_Mod_mixed l ) ⟨Nat.le_of_ble_eq_true rfl, Nat.le_of_ble_eq_true rfl⟩ ⟨Nat.zero_le _, Nat.zero_le _⟩ (Nat.le_of_ble_eq_true rfl) ?_
  refine rx_iload_n C.1 (pc := 9) d_Mod_requestSeal_9 rfl ?_
  refine q_Mod_97 C.1 (pc := 10) d_Mod_requestSeal_10 (c_Mod_mixed l ) ⟨Nat.le_of_ble_eq_true rfl, Nat.le_of_ble_eq_true rfl⟩ ⟨Nat.zero_le _, Nat.zero_le _⟩ (Nat.le_of_ble_eq_true rfl) ?_
  refine rx_iload_n C.1 (pc := 13) d_Mod_requestSeal_13 rfl ?_
  refine q_Mod_97 C.1 (pc := 14) d_Mod_requestSeal_14 (c_Mod_mixed l ) ⟨Nat.le_of_ble_eq_true rfl, Nat.le_of_ble_eq_true rfl⟩ ⟨Nat.zero_le _, Nat.zero_le _⟩ (Nat.le_of_ble_eq_true rfl) ?_
  refine rx_iload C.1 (pc := 17) d_Mod_requestSeal_17 rfl ?_
  refine q_Mod_97 C.1 (pc := 19) d_Mod_requestSeal_19 (c_Mod_mixed l ) ⟨Nat.le_of_ble_eq_true rfl, Nat.le_of_ble_eq_true rfl⟩ ⟨Nat.zero_le _, Nat.zero_le _⟩ (Nat.le_of_ble_eq_true rfl) ?_
  exact rx_iretS C.1 (pc := 22) d_Mod_requestSeal_22 (by first | rfl | (unfold rv_Mod_requestSeal; rfl)) 

def rv_Mod_replySeal (sc : Int32) (m : Int32) (co : Int32) (cd : Int32) (lt : Int32) (id : Int32) : Int32 := (rv_Mod_mixed (rv_Mod_mixed (rv_Mod_mixed (rv_Mod_mixed (rv_Mod_mixed (rv_Mod_mixed sc 3) m) co) cd) lt) id)
set_option maxHeartbeats 4000000 in
set_option maxRecDepth 100000 in
theorem c_Mod_replySeal (l : Launch) {sc : Int32} {m : Int32} {co : Int32} {cd : Int32} {lt : Int32} {id : Int32} : rx_S l y_Mod_replySeal b_Mod_replySeal 6 (some .int) (rx_rm 1) [.int sc, .int m, .int co, .int cd, .int lt, .int id] (.int (rv_Mod_replySeal sc m co cd lt id)) := by
  refine rx_ofS (lo := [(0, .int sc), (1, .int m), (2, .int co), (3, .int cd), (4, .int lt), (5, .int id)]) (by decide) rfl (Nat.le_of_ble_eq_true rfl) rfl ?_
  intro p e s mm below meth c C0
  have C := And.intro C0 True.intro
  refine rx_iload_n C.1 (pc := 0) d_Mod_replySeal_0 rfl ?_
  refine rx_iconst C.1 (v := 3) (pc := 1) d_Mod_replySeal_1 (by decide) ?_
  refine q_Mod_97 C.1 (pc := 2) d_Mod_replySeal_2 (c_Mod_mixed l ) ⟨Nat.le_of_ble_eq_true rfl, Nat.le_of_ble_eq_true rfl⟩ ⟨Nat.zero_le _, Nat.zero_le _⟩ (Nat.le_of_ble_eq_true rfl) ?_
  refine rx_iload_n C.1 (pc := 5) d_Mod_replySeal_5 rfl ?_
  refine q_Mod_97 C.1 (pc := 6) d_Mod_replySeal_6 (c_Mod_mixed l ) ⟨Nat.le_of_ble_eq_true rfl, Nat.le_of_ble_eq_true rfl⟩ ⟨Nat.zero_le _, Nat.zero_le _⟩ (Nat.le_of_ble_eq_true rfl) ?_
  refine rx_iload_n C.1 (pc := 9) d_Mod_replySeal_9 rfl ?_
  refine q_Mod_97 C.1 (pc := 10) d_Mod_replySeal_10 (c_Mod_mixed l ) ⟨Nat.le_of_ble_eq_true rfl, Nat.le_of_ble_eq_true rfl⟩ ⟨Nat.zero_le _, Nat.zero_le _⟩ (Nat.le_of_ble_eq_true rfl) ?_
  refine rx_iload_n C.1 (pc := 13) d_Mod_replySeal_13 rfl ?_
  refine q_Mod_97 C.1 (pc := 14) d_Mod_replySeal_14 (c_Mod_mixed l ) ⟨Nat.le_of_ble_eq_true rfl, Nat.le_of_ble_eq_true rfl⟩ ⟨Nat.zero_le _, Nat.zero_le _⟩ (Nat.le_of_ble_eq_true rfl) ?_
  refine rx_iload C.1 (pc := 17) d_Mod_replySeal_17 rfl ?_
  refine q_Mod_97 C.1 (pc := 19) d_Mod_replySeal_19 (c_Mod_mixed l ) ⟨Nat.le_of_ble_eq_true rfl, Nat.le_of_ble_eq_true rfl⟩ ⟨Nat.zero_le _, Nat.zero_le _⟩ (Nat.le_of_ble_eq_true rfl) ?_
  refine rx_iload C.1 (pc := 22) d_Mod_replySeal_22 rfl ?_
  refine q_Mod_97 C.1 (pc := 24) d_Mod_replySeal_24 (c_Mod_mixed l ) ⟨Nat.le_of_ble_eq_true rfl, Nat.le_of_ble_eq_true rfl⟩ ⟨Nat.zero_le _, Nat.zero_le _⟩ (Nat.le_of_ble_eq_true rfl) ?_
  exact rx_iretS C.1 (pc := 27) d_Mod_replySeal_27 (by first | rfl | (unfold rv_Mod_replySeal; rfl)) 

def rv_Mod_isMessage (σ : rMem) (i : Int32) : Int32 := if i < 0 then 0 else (if (σ 71 4) ≤ i then 0 else 1)
set_option maxHeartbeats 4000000 in
set_option maxRecDepth 100000 in
theorem c_Mod_isMessage (l : Launch) (D : va_G) (b : Nat) (ca : Nat → ClassId) {σ : rMem} {i : Int32} : rx_C l (rx_fin D b ca) y_Mod_isMessage b_Mod_isMessage 2 (some .boolean) (rx_rm 0) [.ref (rg_A (rx_fin D b ca) 71), .int i] σ (some (.int (rv_Mod_isMessage σ i))) σ := by
  refine rx_of (lo := [(0, .ref (rg_A (rx_fin D b ca) 71)), (1, .int i)]) (by decide) (rx_fin_D D b ca) rfl (Nat.le_of_ble_eq_true rfl) rfl ?_
  intro p e s mm below meth c C
  refine rx_iload_n C.1 (pc := 0) d_Mod_isMessage_0 rfl ?_
  refine rx_if_lt C.1 (pc := 1) d_Mod_isMessage_1 (tgt := 16) rfl (fun h1 => ?_) (fun h1 => ?_)
  ·
    refine rx_iconst C.1 (v := 0) (pc := 16) d_Mod_isMessage_16 (by decide) ?_
    exact rx_zret C (pc := 17) d_Mod_isMessage_17 (Or.inl rfl) (by unfold rv_Mod_isMessage; first | (simp only [if_pos h1]; done) | (simp only [if_pos h1]; rfl)) rfl
  ·
    refine rx_iload_n C.1 (pc := 4) d_Mod_isMessage_4 rfl ?_
    refine rx_aload_n C.1 (pc := 5) d_Mod_isMessage_5 rfl ?_
    refine g_Mod_93 D b ca C (pc := 6) d_Mod_isMessage_6 ?_
    refine rx_icmp_ge C.1 (pc := 9) d_Mod_isMessage_9 (tgt := 16) rfl (fun h2 => ?_) (fun h2 => ?_)
    ·
      refine rx_iconst C.1 (v := 0) (pc := 16) d_Mod_isMessage_16 (by decide) ?_
      exact rx_zret C (pc := 17) d_Mod_isMessage_17 (Or.inl rfl) (by unfold rv_Mod_isMessage; first | (simp only [if_neg h1, if_pos h2]; done) | (simp only [if_neg h1, if_pos h2]; rfl)) rfl
    ·
      refine rx_iconst C.1 (v := 1) (pc := 12) d_Mod_isMessage_12 (by decide) ?_
      refine rx_goto C.1 (pc := 13) d_Mod_isMessage_13 (tgt := 17) rfl ?_
      exact rx_zret C (pc := 17) d_Mod_isMessage_17 (Or.inr rfl) (by unfold rv_Mod_isMessage; first | (simp only [if_neg h1, if_neg h2]; done) | (simp only [if_neg h1, if_neg h2]; rfl)) rfl
theorem rh_Mod {σ : rMem} {i : Int32} (h : ¬ rv_Mod_isMessage σ i = 0) : 0 ≤ i.toInt ∧ i.toInt < (σ 71 4).toInt := by
  unfold rv_Mod_isMessage at h
  by_cases h1 : i < 0
  · rw [if_pos h1] at h
    exact absurd rfl h
  · rw [if_neg h1] at h
    by_cases h2 : σ 71 4 ≤ i
    · rw [if_pos h2] at h
      exact absurd rfl h
    · rw [rx_ltI, rx_I0] at h1
      rw [rx_leI] at h2
      exact ⟨by omega, by omega⟩

def sp_Mod_send (σ : rMem) (kd : Int32) (tg : Int32) (m : Int32) (nw : Int32) (nu : Int32) (co : Int32) (lt : Int32) (cd : Int32) (sl : Int32) : rMem := if (σ 71 4) < 40 then (let m1 := rx_wr σ 72 (9 * (σ 71 4)).toNatClampNeg kd; let m2 := rx_wr m1 72 ((9 * (σ 71 4)) + 1).toNatClampNeg tg; let m3 := rx_wr m2 72 ((9 * (σ 71 4)) + 2).toNatClampNeg m; let m4 := rx_wr m3 72 ((9 * (σ 71 4)) + 3).toNatClampNeg nw; let m5 := rx_wr m4 72 ((9 * (σ 71 4)) + 4).toNatClampNeg nu; let m6 := rx_wr m5 72 ((9 * (σ 71 4)) + 5).toNatClampNeg co; let m7 := rx_wr m6 72 ((9 * (σ 71 4)) + 6).toNatClampNeg lt; let m8 := rx_wr m7 72 ((9 * (σ 71 4)) + 7).toNatClampNeg cd; let m9 := rx_wr m8 72 ((9 * (σ 71 4)) + 8).toNatClampNeg sl; let m10 := rx_wr m9 71 4 ((m9 71 4) + 1); m10) else σ
set_option maxHeartbeats 4000000 in
set_option maxRecDepth 100000 in
theorem c_Mod_send (l : Launch) (D : va_G) (b : Nat) (ca : Nat → ClassId) {σ : rMem} {kd : Int32} {tg : Int32} {m : Int32} {nw : Int32} {nu : Int32} {co : Int32} {lt : Int32} {cd : Int32} {sl : Int32} : rx_C l (rx_fin D b ca) y_Mod_send b_Mod_send 11 none (rx_rm 0) [.ref (rg_A (rx_fin D b ca) 71), .int kd, .int tg, .int m, .int nw, .int nu, .int co, .int lt, .int cd, .int sl] σ none (sp_Mod_send σ kd tg m nw nu co lt cd sl) := by
  refine rx_of (lo := [(0, .ref (rg_A (rx_fin D b ca) 71)), (1, .int kd), (2, .int tg), (3, .int m), (4, .int nw), (5, .int nu), (6, .int co), (7, .int lt), (8, .int cd), (9, .int sl)]) (by decide) (rx_fin_D D b ca) rfl (Nat.le_of_ble_eq_true rfl) rfl ?_
  intro p e s mm below meth c C
  refine rx_aload_n C.1 (pc := 0) d_Mod_send_0 rfl ?_
  refine g_Mod_93 D b ca C (pc := 1) d_Mod_send_1 ?_
  refine rx_bipush C.1 (v := 40) (pc := 4) d_Mod_send_4 (by decide) ?_
  refine rx_icmp_lt C.1 (pc := 6) d_Mod_send_6 (tgt := 10) rfl (fun h1 => ?_) (fun h1 => ?_)
  ·
    refine rx_si (fun hI => ?_)
    refine rx_bipush C.1 (v := 9) (pc := 10) d_Mod_send_10 (by decide) ?_
    refine rx_aload_n C.1 (pc := 12) d_Mod_send_12 rfl ?_
    refine g_Mod_93 D b ca C (pc := 13) d_Mod_send_13 ?_
    refine rx_imul C.1 (pc := 16) d_Mod_send_16 ?_
    refine rx_istore C.1 (pc := 17) d_Mod_send_17 (by decide) ?_
    refine rx_aload_n C.1 (pc := 19) d_Mod_send_19 rfl ?_
    refine g_Mod_7 D b ca C (pc := 20) d_Mod_send_20 ?_
    refine rx_iload C.1 (pc := 23) d_Mod_send_23 rfl ?_
    refine rx_iload_n C.1 (pc := 25) d_Mod_send_25 rfl ?_
    refine rx_iast C (i := 72) (n := 369) (pc := 26) d_Mod_send_26 (rx_lt (by decide)) (fun _ => rfl) (sd_in0 hI h1) (rx_SI_wr (by omega)) ?_
    refine rx_nm (fun m1 e1 => ?_)
    refine rx_aload_n C.1 (pc := 27) d_Mod_send_27 rfl ?_
    refine g_Mod_7 D b ca C (pc := 28) d_Mod_send_28 ?_
    refine rx_iload C.1 (pc := 31) d_Mod_send_31 rfl ?_
    refine rx_iconst C.1 (v := 1) (pc := 33) d_Mod_send_33 (by decide) ?_
    refine rx_iadd C.1 (pc := 34) d_Mod_send_34 ?_
    refine rx_iload_n C.1 (pc := 35) d_Mod_send_35 rfl ?_
    refine rx_iast C (i := 72) (n := 369) (pc := 36) d_Mod_send_36 (rx_lt (by decide)) (fun _ => rfl) (sd_in hI h1 (by decide)) (rx_SI_wr (by omega)) ?_
    refine rx_nm (fun m2 e2 => ?_)
    refine rx_aload_n C.1 (pc := 37) d_Mod_send_37 rfl ?_
    refine g_Mod_7 D b ca C (pc := 38) d_Mod_send_38 ?_
    refine rx_iload C.1 (pc := 41) d_Mod_send_41 rfl ?_
    refine rx_iconst C.1 (v := 2) (pc := 43) d_Mod_send_43 (by decide) ?_
    refine rx_iadd C.1 (pc := 44) d_Mod_send_44 ?_
    refine rx_iload_n C.1 (pc := 45) d_Mod_send_45 rfl ?_
    refine rx_iast C (i := 72) (n := 369) (pc := 46) d_Mod_send_46 (rx_lt (by decide)) (fun _ => rfl) (sd_in hI h1 (by decide)) (rx_SI_wr (by omega)) ?_
    refine rx_nm (fun m3 e3 => ?_)
    refine rx_aload_n C.1 (pc := 47) d_Mod_send_47 rfl ?_
    refine g_Mod_7 D b ca C (pc := 48) d_Mod_send_48 ?_
    refine rx_iload C.1 (pc := 51) d_Mod_send_51 rfl ?_
    refine rx_iconst C.1 (v := 3) (pc := 53) d_Mod_send_53 (by decide) ?_
    refine rx_iadd C.1 (pc := 54) d_Mod_send_54 ?_
    refine rx_iload C.1 (pc := 55) d_Mod_send_55 rfl ?_
    refine rx_iast C (i := 72) (n := 369) (pc := 57) d_Mod_send_57 (rx_lt (by decide)) (fun _ => rfl) (sd_in hI h1 (by decide)) (rx_SI_wr (by omega)) ?_
    refine rx_nm (fun m4 e4 => ?_)
    refine rx_aload_n C.1 (pc := 58) d_Mod_send_58 rfl ?_
    refine g_Mod_7 D b ca C (pc := 59) d_Mod_send_59 ?_
    refine rx_iload C.1 (pc := 62) d_Mod_send_62 rfl ?_
    refine rx_iconst C.1 (v := 4) (pc := 64) d_Mod_send_64 (by decide) ?_
    refine rx_iadd C.1 (pc := 65) d_Mod_send_65 ?_
    refine rx_iload C.1 (pc := 66) d_Mod_send_66 rfl ?_
    refine rx_iast C (i := 72) (n := 369) (pc := 68) d_Mod_send_68 (rx_lt (by decide)) (fun _ => rfl) (sd_in hI h1 (by decide)) (rx_SI_wr (by omega)) ?_
    refine rx_nm (fun m5 e5 => ?_)
    refine rx_aload_n C.1 (pc := 69) d_Mod_send_69 rfl ?_
    refine g_Mod_7 D b ca C (pc := 70) d_Mod_send_70 ?_
    refine rx_iload C.1 (pc := 73) d_Mod_send_73 rfl ?_
    refine rx_iconst C.1 (v := 5) (pc := 75) d_Mod_send_75 (by decide) ?_
    refine rx_iadd C.1 (pc := 76) d_Mod_send_76 ?_
    refine rx_iload C.1 (pc := 77) d_Mod_send_77 rfl ?_
    refine rx_iast C (i := 72) (n := 369) (pc := 79) d_Mod_send_79 (rx_lt (by decide)) (fun _ => rfl) (sd_in hI h1 (by decide)) (rx_SI_wr (by omega)) ?_
    refine rx_nm (fun m6 e6 => ?_)
    refine rx_aload_n C.1 (pc := 80) d_Mod_send_80 rfl ?_
    refine g_Mod_7 D b ca C (pc := 81) d_Mod_send_81 ?_
    refine rx_iload C.1 (pc := 84) d_Mod_send_84 rfl ?_
    refine rx_bipush C.1 (v := 6) (pc := 86) d_Mod_send_86 (by decide) ?_
    refine rx_iadd C.1 (pc := 88) d_Mod_send_88 ?_
    refine rx_iload C.1 (pc := 89) d_Mod_send_89 rfl ?_
    refine rx_iast C (i := 72) (n := 369) (pc := 91) d_Mod_send_91 (rx_lt (by decide)) (fun _ => rfl) (sd_in hI h1 (by decide)) (rx_SI_wr (by omega)) ?_
    refine rx_nm (fun m7 e7 => ?_)
    refine rx_aload_n C.1 (pc := 92) d_Mod_send_92 rfl ?_
    refine g_Mod_7 D b ca C (pc := 93) d_Mod_send_93 ?_
    refine rx_iload C.1 (pc := 96) d_Mod_send_96 rfl ?_
    refine rx_bipush C.1 (v := 7) (pc := 98) d_Mod_send_98 (by decide) ?_
    refine rx_iadd C.1 (pc := 100) d_Mod_send_100 ?_
    refine rx_iload C.1 (pc := 101) d_Mod_send_101 rfl ?_
    refine rx_iast C (i := 72) (n := 369) (pc := 103) d_Mod_send_103 (rx_lt (by decide)) (fun _ => rfl) (sd_in hI h1 (by decide)) (rx_SI_wr (by omega)) ?_
    refine rx_nm (fun m8 e8 => ?_)
    refine rx_aload_n C.1 (pc := 104) d_Mod_send_104 rfl ?_
    refine g_Mod_7 D b ca C (pc := 105) d_Mod_send_105 ?_
    refine rx_iload C.1 (pc := 108) d_Mod_send_108 rfl ?_
    refine rx_bipush C.1 (v := 8) (pc := 110) d_Mod_send_110 (by decide) ?_
    refine rx_iadd C.1 (pc := 112) d_Mod_send_112 ?_
    refine rx_iload C.1 (pc := 113) d_Mod_send_113 rfl ?_
    refine rx_iast C (i := 72) (n := 369) (pc := 115) d_Mod_send_115 (rx_lt (by decide)) (fun _ => rfl) (sd_in hI h1 (by decide)) (rx_SI_wr (by omega)) ?_
    refine rx_nm (fun m9 e9 => ?_)
    refine rx_aload_n C.1 (pc := 116) d_Mod_send_116 rfl ?_
    refine rx_dup C.1 (pc := 117) d_Mod_send_117 rfl ?_
    refine g_Mod_93 D b ca C (pc := 118) d_Mod_send_118 ?_
    refine rx_iconst C.1 (v := 1) (pc := 121) d_Mod_send_121 (by decide) ?_
    refine rx_iadd C.1 (pc := 122) d_Mod_send_122 ?_
    have hz : 0 ≤ (m9 71 4 + 1).toInt ∧ (m9 71 4 + 1).toInt ≤ 40 := by subst e9 e8 e7 e6 e5 e4 e3 e2 e1; exact sd_z hI h1
    refine p_Mod_93 D b ca C (pc := 123) d_Mod_send_123 (by assumption) ?_
    refine rx_nm (fun m10 e10 => ?_)
    exact rx_vret C (pc := 126) d_Mod_send_126 (by subst e10 e9 e8 e7 e6 e5 e4 e3 e2 e1; unfold sp_Mod_send; first | (simp only [if_pos h1]; done) | (simp only [if_pos h1]; rfl))
  ·
    exact rx_vret C (pc := 9) d_Mod_send_9 (by unfold sp_Mod_send; first | (simp only [if_neg h1]; done) | (simp only [if_neg h1]; rfl))

def sp_Mod_key (σ : rMem) (sd : Int32) (m : Int32) (x : Int32) : rMem × Int32 := if sd = 0 then (if (rv_Mod_isMobile m) = 0 then (σ, 0) else (let m1 := rx_wr σ 75 m.toNatClampNeg (if sd = 1 then x else (σ 75 m.toNatClampNeg) : Int32); let m2 := rx_wr m1 85 m.toNatClampNeg (if sd = 0 then x else (m1 85 m.toNatClampNeg) : Int32); (m2, 1))) else (if sd = 1 then (if (rv_Mod_isMobile m) = 0 then (σ, 0) else (let m3 := rx_wr σ 75 m.toNatClampNeg (if sd = 1 then x else (σ 75 m.toNatClampNeg) : Int32); let m4 := rx_wr m3 85 m.toNatClampNeg (if sd = 0 then x else (m3 85 m.toNatClampNeg) : Int32); (m4, 1))) else (σ, 0))
set_option maxHeartbeats 4000000 in
set_option maxRecDepth 100000 in
theorem c_Mod_key (l : Launch) (D : va_G) (b : Nat) (ca : Nat → ClassId) {σ : rMem} {sd : Int32} {m : Int32} {x : Int32} : rx_C l (rx_fin D b ca) y_Mod_key b_Mod_key 4 (some .boolean) (rx_rm 1) [.ref (rg_A (rx_fin D b ca) 71), .int sd, .int m, .int x] σ (some (.int (sp_Mod_key σ sd m x).2)) (sp_Mod_key σ sd m x).1 := by
  refine rx_of (lo := [(0, .ref (rg_A (rx_fin D b ca) 71)), (1, .int sd), (2, .int m), (3, .int x)]) (by decide) (rx_fin_D D b ca) rfl (Nat.le_of_ble_eq_true rfl) rfl ?_
  intro p e s mm below meth c C
  refine rx_iload_n C.1 (pc := 0) d_Mod_key_0 rfl ?_
  refine rx_if_eq C.1 (pc := 1) d_Mod_key_1 (tgt := 9) rfl (fun h1 => ?_) (fun h1 => ?_)
  ·
    refine rx_iload_n C.1 (pc := 9) d_Mod_key_9 rfl ?_
    refine q_Mod_101 C.1 (pc := 10) d_Mod_key_10 (c_Mod_isMobile l ) ⟨Nat.le_of_ble_eq_true rfl, Nat.le_of_ble_eq_true rfl⟩ ⟨Nat.zero_le _, Nat.zero_le _⟩ (Nat.le_of_ble_eq_true rfl) ?_
    refine rx_if_ne C.1 (pc := 13) d_Mod_key_13 (tgt := 18) rfl (fun h2 => ?_) (fun h2 => ?_)
    ·
      have g2 := rm_Mod h2
      have j2 := rx_j2 g2
      refine rx_aload_n C.1 (pc := 18) d_Mod_key_18 rfl ?_
      refine g_Mod_19 D b ca C (pc := 19) d_Mod_key_19 ?_
      refine rx_iload_n C.1 (pc := 22) d_Mod_key_22 rfl ?_
      refine rx_iload_n C.1 (pc := 23) d_Mod_key_23 rfl ?_
      refine rx_iconst C.1 (v := 1) (pc := 24) d_Mod_key_24 (by decide) ?_
      refine rx_cut2 (jpc := 38) (v := if sd = 1 then x else (σ 75 m.toNatClampNeg)) (fun hk => ?_) ?_
      ·
        refine rx_icmp_ne C.1 (pc := 25) d_Mod_key_25 (tgt := 32) rfl (fun h3 => ?_) (fun h3 => ?_)
        ·
          refine rx_aload_n C.1 (pc := 32) d_Mod_key_32 rfl ?_
          refine g_Mod_19 D b ca C (pc := 33) d_Mod_key_33 ?_
          refine rx_iload_n C.1 (pc := 36) d_Mod_key_36 rfl ?_
          refine rx_iald C (i := 75) (n := 2) (pc := 37) d_Mod_key_37 (rx_lt (by decide)) rfl (by first | assumption | exact rx_in2 (by assumption) | exact rx_v02 | exact rx_v12 | exact vp_in_iff.mpr (by decide) | exact fa_in (by assumption) (by assumption) | exact fa_in (by assumption) rx_iM0 | exact fa_in (by assumption) rx_iM1) ?_
          rw [if_neg h3] at hk
          exact hk
        ·
          refine rx_iload_n C.1 (pc := 28) d_Mod_key_28 rfl ?_
          refine rx_goto C.1 (pc := 29) d_Mod_key_29 (tgt := 38) rfl ?_
          rw [if_pos h3] at hk
          exact hk
      refine rx_iast C (i := 75) (n := 2) (pc := 38) d_Mod_key_38 (rx_lt (by decide)) (fun _ => rfl) (by first | assumption | exact rx_in2 (by assumption) | exact rx_v02 | exact rx_v12 | exact vp_in_iff.mpr (by decide) | exact fa_in (by assumption) (by assumption) | exact fa_in (by assumption) rx_iM0 | exact fa_in (by assumption) rx_iM1) (rx_SI_wr (by omega)) ?_
      refine rx_nm (fun m1 e1 => ?_)
      refine rx_aload_n C.1 (pc := 39) d_Mod_key_39 rfl ?_
      refine g_Mod_49 D b ca C (pc := 40) d_Mod_key_40 ?_
      refine rx_iload_n C.1 (pc := 43) d_Mod_key_43 rfl ?_
      refine rx_iload_n C.1 (pc := 44) d_Mod_key_44 rfl ?_
      refine rx_cut1 (jpc := 58) (v := if sd = 0 then x else (m1 85 m.toNatClampNeg)) (fun hk => ?_) ?_
      ·
        refine rx_if_ne C.1 (pc := 45) d_Mod_key_45 (tgt := 52) rfl (fun h4 => ?_) (fun h4 => ?_)
        ·
          refine rx_aload_n C.1 (pc := 52) d_Mod_key_52 rfl ?_
          refine g_Mod_49 D b ca C (pc := 53) d_Mod_key_53 ?_
          refine rx_iload_n C.1 (pc := 56) d_Mod_key_56 rfl ?_
          refine rx_iald C (i := 85) (n := 2) (pc := 57) d_Mod_key_57 (rx_lt (by decide)) rfl (by first | assumption | exact rx_in2 (by assumption) | exact rx_v02 | exact rx_v12 | exact vp_in_iff.mpr (by decide) | exact fa_in (by assumption) (by assumption) | exact fa_in (by assumption) rx_iM0 | exact fa_in (by assumption) rx_iM1) ?_
          rw [if_neg h4] at hk
          exact hk
        ·
          refine rx_iload_n C.1 (pc := 48) d_Mod_key_48 rfl ?_
          refine rx_goto C.1 (pc := 49) d_Mod_key_49 (tgt := 58) rfl ?_
          rw [if_pos h4] at hk
          exact hk
      refine rx_iast C (i := 85) (n := 2) (pc := 58) d_Mod_key_58 (rx_lt (by decide)) (fun _ => rfl) (by first | assumption | exact rx_in2 (by assumption) | exact rx_v02 | exact rx_v12 | exact vp_in_iff.mpr (by decide) | exact fa_in (by assumption) (by assumption) | exact fa_in (by assumption) rx_iM0 | exact fa_in (by assumption) rx_iM1) (rx_SI_wr (by omega)) ?_
      refine rx_nm (fun m2 e2 => ?_)
      refine rx_iconst C.1 (v := 1) (pc := 59) d_Mod_key_59 (by decide) ?_
      exact rx_zret C (pc := 60) d_Mod_key_60 (Or.inr rfl) (by subst e2 e1; unfold sp_Mod_key; first | (simp only [if_pos h1, if_neg h2]; done) | (simp only [if_pos h1, if_neg h2]; rfl)) (by subst e2 e1; unfold sp_Mod_key; first | (simp only [if_pos h1, if_neg h2]; done) | (simp only [if_pos h1, if_neg h2]; rfl))
    ·
      refine rx_iconst C.1 (v := 0) (pc := 16) d_Mod_key_16 (by decide) ?_
      exact rx_zret C (pc := 17) d_Mod_key_17 (Or.inl rfl) (by unfold sp_Mod_key; first | (simp only [if_pos h1, if_pos h2]; done) | (simp only [if_pos h1, if_pos h2]; rfl)) (by unfold sp_Mod_key; first | (simp only [if_pos h1, if_pos h2]; done) | (simp only [if_pos h1, if_pos h2]; rfl))
  ·
    refine rx_iload_n C.1 (pc := 4) d_Mod_key_4 rfl ?_
    refine rx_iconst C.1 (v := 1) (pc := 5) d_Mod_key_5 (by decide) ?_
    refine rx_icmp_ne C.1 (pc := 6) d_Mod_key_6 (tgt := 16) rfl (fun h5 => ?_) (fun h5 => ?_)
    ·
      refine rx_iconst C.1 (v := 0) (pc := 16) d_Mod_key_16 (by decide) ?_
      exact rx_zret C (pc := 17) d_Mod_key_17 (Or.inl rfl) (by unfold sp_Mod_key; first | (simp only [if_neg h1, if_neg h5]; done) | (simp only [if_neg h1, if_neg h5]; rfl)) (by unfold sp_Mod_key; first | (simp only [if_neg h1, if_neg h5]; done) | (simp only [if_neg h1, if_neg h5]; rfl))
    ·
      refine rx_iload_n C.1 (pc := 9) d_Mod_key_9 rfl ?_
      refine q_Mod_101 C.1 (pc := 10) d_Mod_key_10 (c_Mod_isMobile l ) ⟨Nat.le_of_ble_eq_true rfl, Nat.le_of_ble_eq_true rfl⟩ ⟨Nat.zero_le _, Nat.zero_le _⟩ (Nat.le_of_ble_eq_true rfl) ?_
      refine rx_if_ne C.1 (pc := 13) d_Mod_key_13 (tgt := 18) rfl (fun h6 => ?_) (fun h6 => ?_)
      ·
        have g6 := rm_Mod h6
        have j6 := rx_j2 g6
        refine rx_aload_n C.1 (pc := 18) d_Mod_key_18 rfl ?_
        refine g_Mod_19 D b ca C (pc := 19) d_Mod_key_19 ?_
        refine rx_iload_n C.1 (pc := 22) d_Mod_key_22 rfl ?_
        refine rx_iload_n C.1 (pc := 23) d_Mod_key_23 rfl ?_
        refine rx_iconst C.1 (v := 1) (pc := 24) d_Mod_key_24 (by decide) ?_
        refine rx_cut2 (jpc := 38) (v := if sd = 1 then x else (σ 75 m.toNatClampNeg)) (fun hk => ?_) ?_
        ·
          refine rx_icmp_ne C.1 (pc := 25) d_Mod_key_25 (tgt := 32) rfl (fun h7 => ?_) (fun h7 => ?_)
          ·
            refine rx_aload_n C.1 (pc := 32) d_Mod_key_32 rfl ?_
            refine g_Mod_19 D b ca C (pc := 33) d_Mod_key_33 ?_
            refine rx_iload_n C.1 (pc := 36) d_Mod_key_36 rfl ?_
            refine rx_iald C (i := 75) (n := 2) (pc := 37) d_Mod_key_37 (rx_lt (by decide)) rfl (by first | assumption | exact rx_in2 (by assumption) | exact rx_v02 | exact rx_v12 | exact vp_in_iff.mpr (by decide) | exact fa_in (by assumption) (by assumption) | exact fa_in (by assumption) rx_iM0 | exact fa_in (by assumption) rx_iM1) ?_
            rw [if_neg h7] at hk
            exact hk
          ·
            refine rx_iload_n C.1 (pc := 28) d_Mod_key_28 rfl ?_
            refine rx_goto C.1 (pc := 29) d_Mod_key_29 (tgt := 38) rfl ?_
            rw [if_pos h7] at hk
            exact hk
        refine rx_iast C (i := 75) (n := 2) (pc := 38) d_Mod_key_38 (rx_lt (by decide)) (fun _ => rfl) (by first | assumption | exact rx_in2 (by assumption) | exact rx_v02 | exact rx_v12 | exact vp_in_iff.mpr (by decide) | exact fa_in (by assumption) (by assumption) | exact fa_in (by assumption) rx_iM0 | exact fa_in (by assumption) rx_iM1) (rx_SI_wr (by omega)) ?_
        refine rx_nm (fun m3 e3 => ?_)
        refine rx_aload_n C.1 (pc := 39) d_Mod_key_39 rfl ?_
        refine g_Mod_49 D b ca C (pc := 40) d_Mod_key_40 ?_
        refine rx_iload_n C.1 (pc := 43) d_Mod_key_43 rfl ?_
        refine rx_iload_n C.1 (pc := 44) d_Mod_key_44 rfl ?_
        refine rx_cut1 (jpc := 58) (v := if sd = 0 then x else (m3 85 m.toNatClampNeg)) (fun hk => ?_) ?_
        ·
          refine rx_if_ne C.1 (pc := 45) d_Mod_key_45 (tgt := 52) rfl (fun h8 => ?_) (fun h8 => ?_)
          ·
            refine rx_aload_n C.1 (pc := 52) d_Mod_key_52 rfl ?_
            refine g_Mod_49 D b ca C (pc := 53) d_Mod_key_53 ?_
            refine rx_iload_n C.1 (pc := 56) d_Mod_key_56 rfl ?_
            refine rx_iald C (i := 85) (n := 2) (pc := 57) d_Mod_key_57 (rx_lt (by decide)) rfl (by first | assumption | exact rx_in2 (by assumption) | exact rx_v02 | exact rx_v12 | exact vp_in_iff.mpr (by decide) | exact fa_in (by assumption) (by assumption) | exact fa_in (by assumption) rx_iM0 | exact fa_in (by assumption) rx_iM1) ?_
            rw [if_neg h8] at hk
            exact hk
          ·
            refine rx_iload_n C.1 (pc := 48) d_Mod_key_48 rfl ?_
            refine rx_goto C.1 (pc := 49) d_Mod_key_49 (tgt := 58) rfl ?_
            rw [if_pos h8] at hk
            exact hk
        refine rx_iast C (i := 85) (n := 2) (pc := 58) d_Mod_key_58 (rx_lt (by decide)) (fun _ => rfl) (by first | assumption | exact rx_in2 (by assumption) | exact rx_v02 | exact rx_v12 | exact vp_in_iff.mpr (by decide) | exact fa_in (by assumption) (by assumption) | exact fa_in (by assumption) rx_iM0 | exact fa_in (by assumption) rx_iM1) (rx_SI_wr (by omega)) ?_
        refine rx_nm (fun m4 e4 => ?_)
        refine rx_iconst C.1 (v := 1) (pc := 59) d_Mod_key_59 (by decide) ?_
        exact rx_zret C (pc := 60) d_Mod_key_60 (Or.inr rfl) (by subst e4 e3; unfold sp_Mod_key; first | (simp only [if_neg h1, if_pos h5, if_neg h6]; done) | (simp only [if_neg h1, if_pos h5, if_neg h6]; rfl)) (by subst e4 e3; unfold sp_Mod_key; first | (simp only [if_neg h1, if_pos h5, if_neg h6]; done) | (simp only [if_neg h1, if_pos h5, if_neg h6]; rfl))
      ·
        refine rx_iconst C.1 (v := 0) (pc := 16) d_Mod_key_16 (by decide) ?_
        exact rx_zret C (pc := 17) d_Mod_key_17 (Or.inl rfl) (by unfold sp_Mod_key; first | (simp only [if_neg h1, if_pos h5, if_pos h6]; done) | (simp only [if_neg h1, if_pos h5, if_pos h6]; rfl)) (by unfold sp_Mod_key; first | (simp only [if_neg h1, if_pos h5, if_pos h6]; done) | (simp only [if_neg h1, if_pos h5, if_pos h6]; rfl))

def sp_Mod_move (σ : rMem) (m : Int32) (x : Int32) : rMem × Int32 := if (rv_Mod_isMobile m) = 0 then (σ, 0) else (if x < 0 then (σ, 0) else (if x ≤ 4 then (let m1 := rx_wr σ 74 m.toNatClampNeg x; (m1, 1)) else (σ, 0)))
set_option maxHeartbeats 4000000 in
set_option maxRecDepth 100000 in
theorem c_Mod_move (l : Launch) (D : va_G) (b : Nat) (ca : Nat → ClassId) {σ : rMem} {m : Int32} {x : Int32} : rx_C l (rx_fin D b ca) y_Mod_move b_Mod_move 3 (some .boolean) (rx_rm 1) [.ref (rg_A (rx_fin D b ca) 71), .int m, .int x] σ (some (.int (sp_Mod_move σ m x).2)) (sp_Mod_move σ m x).1 := by
  refine rx_of (lo := [(0, .ref (rg_A (rx_fin D b ca) 71)), (1, .int m), (2, .int x)]) (by decide) (rx_fin_D D b ca) rfl (Nat.le_of_ble_eq_true rfl) rfl ?_
  intro p e s mm below meth c C
  refine rx_iload_n C.1 (pc := 0) d_Mod_move_0 rfl ?_
  refine q_Mod_101 C.1 (pc := 1) d_Mod_move_1 (c_Mod_isMobile l ) ⟨Nat.le_of_ble_eq_true rfl, Nat.le_of_ble_eq_true rfl⟩ ⟨Nat.zero_le _, Nat.zero_le _⟩ (Nat.le_of_ble_eq_true rfl) ?_
  refine rx_if_eq C.1 (pc := 4) d_Mod_move_4 (tgt := 16) rfl (fun h1 => ?_) (fun h1 => ?_)
  ·
    refine rx_iconst C.1 (v := 0) (pc := 16) d_Mod_move_16 (by decide) ?_
    exact rx_zret C (pc := 17) d_Mod_move_17 (Or.inl rfl) (by unfold sp_Mod_move; first | (simp only [if_pos h1]; done) | (simp only [if_pos h1]; rfl)) (by unfold sp_Mod_move; first | (simp only [if_pos h1]; done) | (simp only [if_pos h1]; rfl))
  ·
    have g1 := rm_Mod h1
    have j1 := rx_j2 g1
    refine rx_iload_n C.1 (pc := 7) d_Mod_move_7 rfl ?_
    refine rx_if_lt C.1 (pc := 8) d_Mod_move_8 (tgt := 16) rfl (fun h2 => ?_) (fun h2 => ?_)
    ·
      refine rx_iconst C.1 (v := 0) (pc := 16) d_Mod_move_16 (by decide) ?_
      exact rx_zret C (pc := 17) d_Mod_move_17 (Or.inl rfl) (by unfold sp_Mod_move; first | (simp only [if_neg h1, if_pos h2]; done) | (simp only [if_neg h1, if_pos h2]; rfl)) (by unfold sp_Mod_move; first | (simp only [if_neg h1, if_pos h2]; done) | (simp only [if_neg h1, if_pos h2]; rfl))
    ·
      refine rx_iload_n C.1 (pc := 11) d_Mod_move_11 rfl ?_
      refine rx_iconst C.1 (v := 4) (pc := 12) d_Mod_move_12 (by decide) ?_
      refine rx_icmp_le C.1 (pc := 13) d_Mod_move_13 (tgt := 18) rfl (fun h3 => ?_) (fun h3 => ?_)
      ·
        refine rx_aload_n C.1 (pc := 18) d_Mod_move_18 rfl ?_
        refine g_Mod_16 D b ca C (pc := 19) d_Mod_move_19 ?_
        refine rx_iload_n C.1 (pc := 22) d_Mod_move_22 rfl ?_
        refine rx_iload_n C.1 (pc := 23) d_Mod_move_23 rfl ?_
        refine rx_iast C (i := 74) (n := 2) (pc := 24) d_Mod_move_24 (rx_lt (by decide)) (fun _ => rfl) (by first | assumption | exact rx_in2 (by assumption) | exact rx_v02 | exact rx_v12 | exact vp_in_iff.mpr (by decide) | exact fa_in (by assumption) (by assumption) | exact fa_in (by assumption) rx_iM0 | exact fa_in (by assumption) rx_iM1) (rx_SI_wr (by omega)) ?_
        refine rx_nm (fun m1 e1 => ?_)
        refine rx_iconst C.1 (v := 1) (pc := 25) d_Mod_move_25 (by decide) ?_
        exact rx_zret C (pc := 26) d_Mod_move_26 (Or.inr rfl) (by subst e1; unfold sp_Mod_move; first | (simp only [if_neg h1, if_neg h2, if_pos h3]; done) | (simp only [if_neg h1, if_neg h2, if_pos h3]; rfl)) (by subst e1; unfold sp_Mod_move; first | (simp only [if_neg h1, if_neg h2, if_pos h3]; done) | (simp only [if_neg h1, if_neg h2, if_pos h3]; rfl))
      ·
        refine rx_iconst C.1 (v := 0) (pc := 16) d_Mod_move_16 (by decide) ?_
        exact rx_zret C (pc := 17) d_Mod_move_17 (Or.inl rfl) (by unfold sp_Mod_move; first | (simp only [if_neg h1, if_neg h2, if_neg h3]; done) | (simp only [if_neg h1, if_neg h2, if_neg h3]; rfl)) (by unfold sp_Mod_move; first | (simp only [if_neg h1, if_neg h2, if_neg h3]; done) | (simp only [if_neg h1, if_neg h2, if_neg h3]; rfl))

def sp_Mod_register (σ : rMem) (m : Int32) (a : Int32) : rMem := let m1 := rx_wr σ 76 m.toNatClampNeg ((σ 76 m.toNatClampNeg) + 1); let m2 := sp_Mod_send m1 2 a m 0 (m1 76 m.toNatClampNeg) a (if a = 0 then 0 else (m1 71 0) : Int32) 0 (rv_Mod_requestSeal (m1 75 m.toNatClampNeg) m a (if a = 0 then 0 else (m1 71 0) : Int32) (m1 76 m.toNatClampNeg)); let m3 := rx_wr m2 81 m.toNatClampNeg (m2 76 m.toNatClampNeg); let m4 := rx_wr m3 82 m.toNatClampNeg a; let m5 := rx_wr m4 83 m.toNatClampNeg (m4 71 3); m5
set_option maxHeartbeats 4000000 in
set_option maxRecDepth 100000 in
theorem c_Mod_register (l : Launch) (D : va_G) (b : Nat) (ca : Nat → ClassId) {σ : rMem} {m : Int32} {a : Int32} (hm : rx_iM m) : rx_C l (rx_fin D b ca) y_Mod_register b_Mod_register 4 none (rx_rm 2) [.ref (rg_A (rx_fin D b ca) 71), .int m, .int a] σ none (sp_Mod_register σ m a) := by
  refine rx_of (lo := [(0, .ref (rg_A (rx_fin D b ca) 71)), (1, .int m), (2, .int a)]) (by decide) (rx_fin_D D b ca) rfl (Nat.le_of_ble_eq_true rfl) rfl ?_
  intro p e s mm below meth c C
  refine rx_aload_n C.1 (pc := 0) d_Mod_register_0 rfl ?_
  refine g_Mod_22 D b ca C (pc := 1) d_Mod_register_1 ?_
  refine rx_iload_n C.1 (pc := 4) d_Mod_register_4 rfl ?_
  refine rx_dup2_11 C.1 (pc := 5) d_Mod_register_5 rfl rfl ?_
  refine rx_iald C (i := 76) (n := 2) (pc := 6) d_Mod_register_6 (rx_lt (by decide)) rfl (by first | assumption | exact rx_in2 (by assumption) | exact rx_v02 | exact rx_v12 | exact vp_in_iff.mpr (by decide) | exact fa_in (by assumption) (by assumption) | exact fa_in (by assumption) rx_iM0 | exact fa_in (by assumption) rx_iM1) ?_
  refine rx_iconst C.1 (v := 1) (pc := 7) d_Mod_register_7 (by decide) ?_
  refine rx_iadd C.1 (pc := 8) d_Mod_register_8 ?_
  refine rx_iast C (i := 76) (n := 2) (pc := 9) d_Mod_register_9 (rx_lt (by decide)) (fun _ => rfl) (by first | assumption | exact rx_in2 (by assumption) | exact rx_v02 | exact rx_v12 | exact vp_in_iff.mpr (by decide) | exact fa_in (by assumption) (by assumption) | exact fa_in (by assumption) rx_iM0 | exact fa_in (by assumption) rx_iM1) (rx_SI_wr (by omega)) ?_
  refine rx_nm (fun m1 e1 => ?_)
  refine rx_iload_n C.1 (pc := 10) d_Mod_register_10 rfl ?_
  refine rx_cut1 (jpc := 22) (v := if a = 0 then 0 else (m1 71 0)) (fun hk => ?_) ?_
  ·
    refine rx_if_ne C.1 (pc := 11) d_Mod_register_11 (tgt := 18) rfl (fun h1 => ?_) (fun h1 => ?_)
    ·
      refine rx_aload_n C.1 (pc := 18) d_Mod_register_18 rfl ?_
      refine g_Mod_82 D b ca C (pc := 19) d_Mod_register_19 ?_
      rw [if_neg h1] at hk
      exact hk
    ·
      refine rx_iconst C.1 (v := 0) (pc := 14) d_Mod_register_14 (by decide) ?_
      refine rx_goto C.1 (pc := 15) d_Mod_register_15 (tgt := 22) rfl ?_
      rw [if_pos h1] at hk
      exact hk
  refine rx_istore_n C.1 (pc := 22) d_Mod_register_22 (by decide) ?_
  refine rx_aload_n C.1 (pc := 23) d_Mod_register_23 rfl ?_
  refine rx_iconst C.1 (v := 2) (pc := 24) d_Mod_register_24 (by decide) ?_
  refine rx_iload_n C.1 (pc := 25) d_Mod_register_25 rfl ?_
  refine rx_iload_n C.1 (pc := 26) d_Mod_register_26 rfl ?_
  refine rx_iconst C.1 (v := 0) (pc := 27) d_Mod_register_27 (by decide) ?_
  refine rx_aload_n C.1 (pc := 28) d_Mod_register_28 rfl ?_
  refine g_Mod_22 D b ca C (pc := 29) d_Mod_register_29 ?_
  refine rx_iload_n C.1 (pc := 32) d_Mod_register_32 rfl ?_
  refine rx_iald C (i := 76) (n := 2) (pc := 33) d_Mod_register_33 (rx_lt (by decide)) rfl (by first | assumption | exact rx_in2 (by assumption) | exact rx_v02 | exact rx_v12 | exact vp_in_iff.mpr (by decide) | exact fa_in (by assumption) (by assumption) | exact fa_in (by assumption) rx_iM0 | exact fa_in (by assumption) rx_iM1) ?_
  refine rx_iload_n C.1 (pc := 34) d_Mod_register_34 rfl ?_
  refine rx_iload_n C.1 (pc := 35) d_Mod_register_35 rfl ?_
  refine rx_iconst C.1 (v := 0) (pc := 36) d_Mod_register_36 (by decide) ?_
  refine rx_aload_n C.1 (pc := 37) d_Mod_register_37 rfl ?_
  refine g_Mod_19 D b ca C (pc := 38) d_Mod_register_38 ?_
  refine rx_iload_n C.1 (pc := 41) d_Mod_register_41 rfl ?_
  refine rx_iald C (i := 75) (n := 2) (pc := 42) d_Mod_register_42 (rx_lt (by decide)) rfl (by first | assumption | exact rx_in2 (by assumption) | exact rx_v02 | exact rx_v12 | exact vp_in_iff.mpr (by decide) | exact fa_in (by assumption) (by assumption) | exact fa_in (by assumption) rx_iM0 | exact fa_in (by assumption) rx_iM1) ?_
  refine rx_iload_n C.1 (pc := 43) d_Mod_register_43 rfl ?_
  refine rx_iload_n C.1 (pc := 44) d_Mod_register_44 rfl ?_
  refine rx_iload_n C.1 (pc := 45) d_Mod_register_45 rfl ?_
  refine rx_aload_n C.1 (pc := 46) d_Mod_register_46 rfl ?_
  refine g_Mod_22 D b ca C (pc := 47) d_Mod_register_47 ?_
  refine rx_iload_n C.1 (pc := 50) d_Mod_register_50 rfl ?_
  refine rx_iald C (i := 76) (n := 2) (pc := 51) d_Mod_register_51 (rx_lt (by decide)) rfl (by first | assumption | exact rx_in2 (by assumption) | exact rx_v02 | exact rx_v12 | exact vp_in_iff.mpr (by decide) | exact fa_in (by assumption) (by assumption) | exact fa_in (by assumption) rx_iM0 | exact fa_in (by assumption) rx_iM1) ?_
  refine q_Mod_105 C.1 (pc := 52) d_Mod_register_52 (c_Mod_requestSeal l ) ⟨Nat.le_of_ble_eq_true rfl, Nat.le_of_ble_eq_true rfl⟩ ⟨Nat.zero_le _, Nat.zero_le _⟩ (Nat.le_of_ble_eq_true rfl) ?_
  refine q_Mod_109 D b ca C (pc := 55) d_Mod_register_55 (c_Mod_send l D b ca ) ⟨Nat.le_of_ble_eq_true rfl, Nat.le_of_ble_eq_true rfl⟩ ⟨Nat.zero_le _, Nat.zero_le _⟩ (Nat.le_of_ble_eq_true rfl) ?_
  refine rx_nm (fun m2 e2 => ?_)
  refine rx_aload_n C.1 (pc := 58) d_Mod_register_58 rfl ?_
  refine g_Mod_37 D b ca C (pc := 59) d_Mod_register_59 ?_
  refine rx_iload_n C.1 (pc := 62) d_Mod_register_62 rfl ?_
  refine rx_aload_n C.1 (pc := 63) d_Mod_register_63 rfl ?_
  refine g_Mod_22 D b ca C (pc := 64) d_Mod_register_64 ?_
  refine rx_iload_n C.1 (pc := 67) d_Mod_register_67 rfl ?_
  refine rx_iald C (i := 76) (n := 2) (pc := 68) d_Mod_register_68 (rx_lt (by decide)) rfl (by first | assumption | exact rx_in2 (by assumption) | exact rx_v02 | exact rx_v12 | exact vp_in_iff.mpr (by decide) | exact fa_in (by assumption) (by assumption) | exact fa_in (by assumption) rx_iM0 | exact fa_in (by assumption) rx_iM1) ?_
  refine rx_iast C (i := 81) (n := 2) (pc := 69) d_Mod_register_69 (rx_lt (by decide)) (fun _ => rfl) (by first | assumption | exact rx_in2 (by assumption) | exact rx_v02 | exact rx_v12 | exact vp_in_iff.mpr (by decide) | exact fa_in (by assumption) (by assumption) | exact fa_in (by assumption) rx_iM0 | exact fa_in (by assumption) rx_iM1) (rx_SI_wr (by omega)) ?_
  refine rx_nm (fun m3 e3 => ?_)
  refine rx_aload_n C.1 (pc := 70) d_Mod_register_70 rfl ?_
  refine g_Mod_40 D b ca C (pc := 71) d_Mod_register_71 ?_
  refine rx_iload_n C.1 (pc := 74) d_Mod_register_74 rfl ?_
  refine rx_iload_n C.1 (pc := 75) d_Mod_register_75 rfl ?_
  refine rx_iast C (i := 82) (n := 2) (pc := 76) d_Mod_register_76 (rx_lt (by decide)) (fun _ => rfl) (by first | assumption | exact rx_in2 (by assumption) | exact rx_v02 | exact rx_v12 | exact vp_in_iff.mpr (by decide) | exact fa_in (by assumption) (by assumption) | exact fa_in (by assumption) rx_iM0 | exact fa_in (by assumption) rx_iM1) (rx_SI_wr (by omega)) ?_
  refine rx_nm (fun m4 e4 => ?_)
  refine rx_aload_n C.1 (pc := 77) d_Mod_register_77 rfl ?_
  refine g_Mod_43 D b ca C (pc := 78) d_Mod_register_78 ?_
  refine rx_iload_n C.1 (pc := 81) d_Mod_register_81 rfl ?_
  refine rx_aload_n C.1 (pc := 82) d_Mod_register_82 rfl ?_
  refine g_Mod_113 D b ca C (pc := 83) d_Mod_register_83 ?_
  refine rx_iast C (i := 83) (n := 2) (pc := 86) d_Mod_register_86 (rx_lt (by decide)) (fun _ => rfl) (by first | assumption | exact rx_in2 (by assumption) | exact rx_v02 | exact rx_v12 | exact vp_in_iff.mpr (by decide) | exact fa_in (by assumption) (by assumption) | exact fa_in (by assumption) rx_iM0 | exact fa_in (by assumption) rx_iM1) (rx_SI_wr (by omega)) ?_
  refine rx_nm (fun m5 e5 => ?_)
  exact rx_vret C (pc := 87) d_Mod_register_87 (by subst e5 e4 e3 e2 e1; unfold sp_Mod_register; first | with_reducible rfl | (simp only []; done) | rfl)

def sp_Mod_advert (σ : rMem) (m : Int32) (a : Int32) : rMem := let m1 := rx_wr σ 79 m.toNatClampNeg a; let m2 := rx_wr m1 80 m.toNatClampNeg ((m1 71 3) + 12); if (m2 77 m.toNatClampNeg) = a then (if (if (m2 77 m.toNatClampNeg) ≤ 0 then 0 else (if ((m2 71 3) + 4) < (m2 78 m.toNatClampNeg) then 0 else 1) : Int32) = 0 then m2 else (if (if (m2 81 m.toNatClampNeg) ≤ 0 then 0 else (if (m2 82 m.toNatClampNeg) = a then 1 else 0) : Int32) = 0 then (let m4 := sp_Mod_register m2 m a; m4) else m2)) else (if (if (m2 81 m.toNatClampNeg) ≤ 0 then 0 else (if (m2 82 m.toNatClampNeg) = a then 1 else 0) : Int32) = 0 then (let m3 := sp_Mod_register m2 m a; m3) else m2)
set_option maxHeartbeats 4000000 in
set_option maxRecDepth 100000 in
theorem c_Mod_advert (l : Launch) (D : va_G) (b : Nat) (ca : Nat → ClassId) {σ : rMem} {m : Int32} {a : Int32} (hm : rx_iM m) : rx_C l (rx_fin D b ca) y_Mod_advert b_Mod_advert 5 none (rx_rm 3) [.ref (rg_A (rx_fin D b ca) 71), .int m, .int a] σ none (sp_Mod_advert σ m a) := by
  refine rx_of (lo := [(0, .ref (rg_A (rx_fin D b ca) 71)), (1, .int m), (2, .int a)]) (by decide) (rx_fin_D D b ca) rfl (Nat.le_of_ble_eq_true rfl) rfl ?_
  intro p e s mm below meth c C
  refine rx_aload_n C.1 (pc := 0) d_Mod_advert_0 rfl ?_
  refine g_Mod_31 D b ca C (pc := 1) d_Mod_advert_1 ?_
  refine rx_iload_n C.1 (pc := 4) d_Mod_advert_4 rfl ?_
  refine rx_iload_n C.1 (pc := 5) d_Mod_advert_5 rfl ?_
  refine rx_iast C (i := 79) (n := 2) (pc := 6) d_Mod_advert_6 (rx_lt (by decide)) (fun _ => rfl) (by first | assumption | exact rx_in2 (by assumption) | exact rx_v02 | exact rx_v12 | exact vp_in_iff.mpr (by decide) | exact fa_in (by assumption) (by assumption) | exact fa_in (by assumption) rx_iM0 | exact fa_in (by assumption) rx_iM1) (rx_SI_wr (by omega)) ?_
  refine rx_nm (fun m1 e1 => ?_)
  refine rx_aload_n C.1 (pc := 7) d_Mod_advert_7 rfl ?_
  refine g_Mod_34 D b ca C (pc := 8) d_Mod_advert_8 ?_
  refine rx_iload_n C.1 (pc := 11) d_Mod_advert_11 rfl ?_
  refine rx_aload_n C.1 (pc := 12) d_Mod_advert_12 rfl ?_
  refine g_Mod_113 D b ca C (pc := 13) d_Mod_advert_13 ?_
  refine rx_bipush C.1 (v := 12) (pc := 16) d_Mod_advert_16 (by decide) ?_
  refine rx_iadd C.1 (pc := 18) d_Mod_advert_18 ?_
  refine rx_iast C (i := 80) (n := 2) (pc := 19) d_Mod_advert_19 (rx_lt (by decide)) (fun _ => rfl) (by first | assumption | exact rx_in2 (by assumption) | exact rx_v02 | exact rx_v12 | exact vp_in_iff.mpr (by decide) | exact fa_in (by assumption) (by assumption) | exact fa_in (by assumption) rx_iM0 | exact fa_in (by assumption) rx_iM1) (rx_SI_wr (by omega)) ?_
  refine rx_nm (fun m2 e2 => ?_)
  refine rx_aload_n C.1 (pc := 20) d_Mod_advert_20 rfl ?_
  refine g_Mod_25 D b ca C (pc := 21) d_Mod_advert_21 ?_
  refine rx_iload_n C.1 (pc := 24) d_Mod_advert_24 rfl ?_
  refine rx_iald C (i := 77) (n := 2) (pc := 25) d_Mod_advert_25 (rx_lt (by decide)) rfl (by first | assumption | exact rx_in2 (by assumption) | exact rx_v02 | exact rx_v12 | exact vp_in_iff.mpr (by decide) | exact fa_in (by assumption) (by assumption) | exact fa_in (by assumption) rx_iM0 | exact fa_in (by assumption) rx_iM1) ?_
  refine rx_cut1 (jpc := 49) (v := if (m2 77 m.toNatClampNeg) ≤ 0 then 0 else (if ((m2 71 3) + 4) < (m2 78 m.toNatClampNeg) then 0 else 1)) (fun hk => ?_) ?_
  ·
    refine rx_if_le C.1 (pc := 26) d_Mod_advert_26 (tgt := 48) rfl (fun h1 => ?_) (fun h1 => ?_)
    ·
      refine rx_iconst C.1 (v := 0) (pc := 48) d_Mod_advert_48 (by decide) ?_
      rw [if_pos h1] at hk
      exact hk
    ·
      refine rx_aload_n C.1 (pc := 29) d_Mod_advert_29 rfl ?_
      refine g_Mod_28 D b ca C (pc := 30) d_Mod_advert_30 ?_
      refine rx_iload_n C.1 (pc := 33) d_Mod_advert_33 rfl ?_
      refine rx_iald C (i := 78) (n := 2) (pc := 34) d_Mod_advert_34 (rx_lt (by decide)) rfl (by first | assumption | exact rx_in2 (by assumption) | exact rx_v02 | exact rx_v12 | exact vp_in_iff.mpr (by decide) | exact fa_in (by assumption) (by assumption) | exact fa_in (by assumption) rx_iM0 | exact fa_in (by assumption) rx_iM1) ?_
      refine rx_aload_n C.1 (pc := 35) d_Mod_advert_35 rfl ?_
      refine g_Mod_113 D b ca C (pc := 36) d_Mod_advert_36 ?_
      refine rx_iconst C.1 (v := 4) (pc := 39) d_Mod_advert_39 (by decide) ?_
      refine rx_iadd C.1 (pc := 40) d_Mod_advert_40 ?_
      refine rx_icmp_gt C.1 (pc := 41) d_Mod_advert_41 (tgt := 48) rfl (fun h2 => ?_) (fun h2 => ?_)
      ·
        refine rx_iconst C.1 (v := 0) (pc := 48) d_Mod_advert_48 (by decide) ?_
        rw [if_neg h1, if_pos h2] at hk
        exact hk
      ·
        refine rx_iconst C.1 (v := 1) (pc := 44) d_Mod_advert_44 (by decide) ?_
        refine rx_goto C.1 (pc := 45) d_Mod_advert_45 (tgt := 49) rfl ?_
        rw [if_neg h1, if_neg h2] at hk
        exact hk
  refine rx_istore_n C.1 (pc := 49) d_Mod_advert_49 (by decide) ?_
  refine rx_aload_n C.1 (pc := 50) d_Mod_advert_50 rfl ?_
  refine g_Mod_37 D b ca C (pc := 51) d_Mod_advert_51 ?_
  refine rx_iload_n C.1 (pc := 54) d_Mod_advert_54 rfl ?_
  refine rx_iald C (i := 81) (n := 2) (pc := 55) d_Mod_advert_55 (rx_lt (by decide)) rfl (by first | assumption | exact rx_in2 (by assumption) | exact rx_v02 | exact rx_v12 | exact vp_in_iff.mpr (by decide) | exact fa_in (by assumption) (by assumption) | exact fa_in (by assumption) rx_iM0 | exact fa_in (by assumption) rx_iM1) ?_
  refine rx_cut1 (jpc := 74) (v := if (m2 81 m.toNatClampNeg) ≤ 0 then 0 else (if (m2 82 m.toNatClampNeg) = a then 1 else 0)) (fun hk => ?_) ?_
  ·
    refine rx_if_le C.1 (pc := 56) d_Mod_advert_56 (tgt := 73) rfl (fun h3 => ?_) (fun h3 => ?_)
    ·
      refine rx_iconst C.1 (v := 0) (pc := 73) d_Mod_advert_73 (by decide) ?_
      rw [if_pos h3] at hk
      exact hk
    ·
      refine rx_aload_n C.1 (pc := 59) d_Mod_advert_59 rfl ?_
      refine g_Mod_40 D b ca C (pc := 60) d_Mod_advert_60 ?_
      refine rx_iload_n C.1 (pc := 63) d_Mod_advert_63 rfl ?_
      refine rx_iald C (i := 82) (n := 2) (pc := 64) d_Mod_advert_64 (rx_lt (by decide)) rfl (by first | assumption | exact rx_in2 (by assumption) | exact rx_v02 | exact rx_v12 | exact vp_in_iff.mpr (by decide) | exact fa_in (by assumption) (by assumption) | exact fa_in (by assumption) rx_iM0 | exact fa_in (by assumption) rx_iM1) ?_
      refine rx_iload_n C.1 (pc := 65) d_Mod_advert_65 rfl ?_
      refine rx_icmp_ne C.1 (pc := 66) d_Mod_advert_66 (tgt := 73) rfl (fun h4 => ?_) (fun h4 => ?_)
      ·
        refine rx_iconst C.1 (v := 0) (pc := 73) d_Mod_advert_73 (by decide) ?_
        rw [if_neg h3, if_neg h4] at hk
        exact hk
      ·
        refine rx_iconst C.1 (v := 1) (pc := 69) d_Mod_advert_69 (by decide) ?_
        refine rx_goto C.1 (pc := 70) d_Mod_advert_70 (tgt := 74) rfl ?_
        rw [if_neg h3, if_pos h4] at hk
        exact hk
  refine rx_istore C.1 (pc := 74) d_Mod_advert_74 (by decide) ?_
  refine rx_aload_n C.1 (pc := 76) d_Mod_advert_76 rfl ?_
  refine g_Mod_25 D b ca C (pc := 77) d_Mod_advert_77 ?_
  refine rx_iload_n C.1 (pc := 80) d_Mod_advert_80 rfl ?_
  refine rx_iald C (i := 77) (n := 2) (pc := 81) d_Mod_advert_81 (rx_lt (by decide)) rfl (by first | assumption | exact rx_in2 (by assumption) | exact rx_v02 | exact rx_v12 | exact vp_in_iff.mpr (by decide) | exact fa_in (by assumption) (by assumption) | exact fa_in (by assumption) rx_iM0 | exact fa_in (by assumption) rx_iM1) ?_
  refine rx_iload_n C.1 (pc := 82) d_Mod_advert_82 rfl ?_
  refine rx_icmp_ne C.1 (pc := 83) d_Mod_advert_83 (tgt := 90) rfl (fun h5 => ?_) (fun h5 => ?_)
  ·
    refine rx_iload C.1 (pc := 90) d_Mod_advert_90 rfl ?_
    refine rx_if_ne C.1 (pc := 92) d_Mod_advert_92 (tgt := 101) rfl (fun h6 => ?_) (fun h6 => ?_)
    ·
      exact rx_vret C (pc := 101) d_Mod_advert_101 (by subst e2 e1; unfold sp_Mod_advert; first | (simp only [if_neg h5, if_neg h6]; done) | (simp only [if_neg h5, if_neg h6]; rfl))
    ·
      refine rx_aload_n C.1 (pc := 95) d_Mod_advert_95 rfl ?_
      refine rx_iload_n C.1 (pc := 96) d_Mod_advert_96 rfl ?_
      refine rx_iload_n C.1 (pc := 97) d_Mod_advert_97 rfl ?_
      refine q_Mod_116 D b ca C (pc := 98) d_Mod_advert_98 (c_Mod_register l D b ca (by first | assumption | exact rx_iM0 | exact rx_iM1 | (constructor <;> omega))) ⟨Nat.le_of_ble_eq_true rfl, Nat.le_of_ble_eq_true rfl⟩ ⟨Nat.zero_le _, Nat.zero_le _⟩ (Nat.le_of_ble_eq_true rfl) ?_
      refine rx_nm (fun m3 e3 => ?_)
      exact rx_vret C (pc := 101) d_Mod_advert_101 (by subst e3 e2 e1; unfold sp_Mod_advert; first | (simp only [if_neg h5, if_pos h6]; done) | (simp only [if_neg h5, if_pos h6]; rfl))
  ·
    refine rx_iload_n C.1 (pc := 86) d_Mod_advert_86 rfl ?_
    refine rx_if_eq C.1 (pc := 87) d_Mod_advert_87 (tgt := 101) rfl (fun h7 => ?_) (fun h7 => ?_)
    ·
      exact rx_vret C (pc := 101) d_Mod_advert_101 (by subst e2 e1; unfold sp_Mod_advert; first | (simp only [if_pos h5, if_pos h7]; done) | (simp only [if_pos h5, if_pos h7]; rfl))
    ·
      refine rx_iload C.1 (pc := 90) d_Mod_advert_90 rfl ?_
      refine rx_if_ne C.1 (pc := 92) d_Mod_advert_92 (tgt := 101) rfl (fun h8 => ?_) (fun h8 => ?_)
      ·
        exact rx_vret C (pc := 101) d_Mod_advert_101 (by subst e2 e1; unfold sp_Mod_advert; first | (simp only [if_pos h5, if_neg h7, if_neg h8]; done) | (simp only [if_pos h5, if_neg h7, if_neg h8]; rfl))
      ·
        refine rx_aload_n C.1 (pc := 95) d_Mod_advert_95 rfl ?_
        refine rx_iload_n C.1 (pc := 96) d_Mod_advert_96 rfl ?_
        refine rx_iload_n C.1 (pc := 97) d_Mod_advert_97 rfl ?_
        refine q_Mod_116 D b ca C (pc := 98) d_Mod_advert_98 (c_Mod_register l D b ca (by first | assumption | exact rx_iM0 | exact rx_iM1 | (constructor <;> omega))) ⟨Nat.le_of_ble_eq_true rfl, Nat.le_of_ble_eq_true rfl⟩ ⟨Nat.zero_le _, Nat.zero_le _⟩ (Nat.le_of_ble_eq_true rfl) ?_
        refine rx_nm (fun m4 e4 => ?_)
        exact rx_vret C (pc := 101) d_Mod_advert_101 (by subst e4 e2 e1; unfold sp_Mod_advert; first | (simp only [if_pos h5, if_neg h7, if_pos h8]; done) | (simp only [if_pos h5, if_neg h7, if_pos h8]; rfl))

def sp_Mod_replyAtMobile (σ : rMem) (m : Int32) : rMem := if (σ 81 m.toNatClampNeg) = 0 then σ else (if (σ 73 (Int32.toNatClampNeg 4)) = (σ 81 m.toNatClampNeg) then (if (σ 73 (Int32.toNatClampNeg 7)) = 66 then (let m4 := rx_wr σ 81 m.toNatClampNeg 0; m4) else (if (σ 73 (Int32.toNatClampNeg 8)) = (rv_Mod_replySeal (σ 75 m.toNatClampNeg) m (σ 73 (Int32.toNatClampNeg 5)) (σ 73 (Int32.toNatClampNeg 7)) (σ 73 (Int32.toNatClampNeg 6)) (σ 73 (Int32.toNatClampNeg 4))) then (let m1 := rx_wr σ 81 m.toNatClampNeg 0; if (m1 73 (Int32.toNatClampNeg 7)) = 0 then (let m2 := rx_wr m1 77 m.toNatClampNeg (m1 73 (Int32.toNatClampNeg 5)); let m3 := rx_wr m2 78 m.toNatClampNeg (if (m2 73 (Int32.toNatClampNeg 5)) = 0 then 2147483647 else ((m2 83 m.toNatClampNeg) + (m2 73 (Int32.toNatClampNeg 6))) : Int32); m3) else m1) else σ)) else σ)
set_option maxHeartbeats 4000000 in
set_option maxRecDepth 100000 in
theorem c_Mod_replyAtMobile (l : Launch) (D : va_G) (b : Nat) (ca : Nat → ClassId) {σ : rMem} {m : Int32} (hm : rx_iM m) : rx_C l (rx_fin D b ca) y_Mod_replyAtMobile b_Mod_replyAtMobile 2 none (rx_rm 2) [.ref (rg_A (rx_fin D b ca) 71), .int m] σ none (sp_Mod_replyAtMobile σ m) := by
  refine rx_of (lo := [(0, .ref (rg_A (rx_fin D b ca) 71)), (1, .int m)]) (by decide) (rx_fin_D D b ca) rfl (Nat.le_of_ble_eq_true rfl) rfl ?_
  intro p e s mm below meth c C
  refine rx_aload_n C.1 (pc := 0) d_Mod_replyAtMobile_0 rfl ?_
  refine g_Mod_37 D b ca C (pc := 1) d_Mod_replyAtMobile_1 ?_
  refine rx_iload_n C.1 (pc := 4) d_Mod_replyAtMobile_4 rfl ?_
  refine rx_iald C (i := 81) (n := 2) (pc := 5) d_Mod_replyAtMobile_5 (rx_lt (by decide)) rfl (by first | assumption | exact rx_in2 (by assumption) | exact rx_v02 | exact rx_v12 | exact vp_in_iff.mpr (by decide) | exact fa_in (by assumption) (by assumption) | exact fa_in (by assumption) rx_iM0 | exact fa_in (by assumption) rx_iM1) ?_
  refine rx_if_eq C.1 (pc := 6) d_Mod_replyAtMobile_6 (tgt := 24) rfl (fun h1 => ?_) (fun h1 => ?_)
  ·
    exact rx_vret C (pc := 24) d_Mod_replyAtMobile_24 (by unfold sp_Mod_replyAtMobile; first | (simp only [if_pos h1]; done) | (simp only [if_pos h1]; rfl))
  ·
    refine rx_aload_n C.1 (pc := 9) d_Mod_replyAtMobile_9 rfl ?_
    refine g_Mod_13 D b ca C (pc := 10) d_Mod_replyAtMobile_10 ?_
    refine rx_iconst C.1 (v := 4) (pc := 13) d_Mod_replyAtMobile_13 (by decide) ?_
    refine rx_iald C (i := 73) (n := 9) (pc := 14) d_Mod_replyAtMobile_14 (rx_lt (by decide)) rfl (by first | assumption | exact rx_in2 (by assumption) | exact rx_v02 | exact rx_v12 | exact vp_in_iff.mpr (by decide) | exact fa_in (by assumption) (by assumption) | exact fa_in (by assumption) rx_iM0 | exact fa_in (by assumption) rx_iM1) ?_
    refine rx_aload_n C.1 (pc := 15) d_Mod_replyAtMobile_15 rfl ?_
    refine g_Mod_37 D b ca C (pc := 16) d_Mod_replyAtMobile_16 ?_
    refine rx_iload_n C.1 (pc := 19) d_Mod_replyAtMobile_19 rfl ?_
    refine rx_iald C (i := 81) (n := 2) (pc := 20) d_Mod_replyAtMobile_20 (rx_lt (by decide)) rfl (by first | assumption | exact rx_in2 (by assumption) | exact rx_v02 | exact rx_v12 | exact vp_in_iff.mpr (by decide) | exact fa_in (by assumption) (by assumption) | exact fa_in (by assumption) rx_iM0 | exact fa_in (by assumption) rx_iM1) ?_
    refine rx_icmp_eq C.1 (pc := 21) d_Mod_replyAtMobile_21 (tgt := 25) rfl (fun h2 => ?_) (fun h2 => ?_)
    ·
      refine rx_aload_n C.1 (pc := 25) d_Mod_replyAtMobile_25 rfl ?_
      refine g_Mod_13 D b ca C (pc := 26) d_Mod_replyAtMobile_26 ?_
      refine rx_bipush C.1 (v := 7) (pc := 29) d_Mod_replyAtMobile_29 (by decide) ?_
      refine rx_iald C (i := 73) (n := 9) (pc := 31) d_Mod_replyAtMobile_31 (rx_lt (by decide)) rfl (by first | assumption | exact rx_in2 (by assumption) | exact rx_v02 | exact rx_v12 | exact vp_in_iff.mpr (by decide) | exact fa_in (by assumption) (by assumption) | exact fa_in (by assumption) rx_iM0 | exact fa_in (by assumption) rx_iM1) ?_
      refine rx_bipush C.1 (v := 66) (pc := 32) d_Mod_replyAtMobile_32 (by decide) ?_
      refine rx_icmp_ne C.1 (pc := 34) d_Mod_replyAtMobile_34 (tgt := 45) rfl (fun h3 => ?_) (fun h3 => ?_)
      ·
        refine rx_aload_n C.1 (pc := 45) d_Mod_replyAtMobile_45 rfl ?_
        refine g_Mod_13 D b ca C (pc := 46) d_Mod_replyAtMobile_46 ?_
        refine rx_bipush C.1 (v := 8) (pc := 49) d_Mod_replyAtMobile_49 (by decide) ?_
        refine rx_iald C (i := 73) (n := 9) (pc := 51) d_Mod_replyAtMobile_51 (rx_lt (by decide)) rfl (by first | assumption | exact rx_in2 (by assumption) | exact rx_v02 | exact rx_v12 | exact vp_in_iff.mpr (by decide) | exact fa_in (by assumption) (by assumption) | exact fa_in (by assumption) rx_iM0 | exact fa_in (by assumption) rx_iM1) ?_
        refine rx_aload_n C.1 (pc := 52) d_Mod_replyAtMobile_52 rfl ?_
        refine g_Mod_19 D b ca C (pc := 53) d_Mod_replyAtMobile_53 ?_
        refine rx_iload_n C.1 (pc := 56) d_Mod_replyAtMobile_56 rfl ?_
        refine rx_iald C (i := 75) (n := 2) (pc := 57) d_Mod_replyAtMobile_57 (rx_lt (by decide)) rfl (by first | assumption | exact rx_in2 (by assumption) | exact rx_v02 | exact rx_v12 | exact vp_in_iff.mpr (by decide) | exact fa_in (by assumption) (by assumption) | exact fa_in (by assumption) rx_iM0 | exact fa_in (by assumption) rx_iM1) ?_
        refine rx_iload_n C.1 (pc := 58) d_Mod_replyAtMobile_58 rfl ?_
        refine rx_aload_n C.1 (pc := 59) d_Mod_replyAtMobile_59 rfl ?_
        refine g_Mod_13 D b ca C (pc := 60) d_Mod_replyAtMobile_60 ?_
        refine rx_iconst C.1 (v := 5) (pc := 63) d_Mod_replyAtMobile_63 (by decide) ?_
        refine rx_iald C (i := 73) (n := 9) (pc := 64) d_Mod_replyAtMobile_64 (rx_lt (by decide)) rfl (by first | assumption | exact rx_in2 (by assumption) | exact rx_v02 | exact rx_v12 | exact vp_in_iff.mpr (by decide) | exact fa_in (by assumption) (by assumption) | exact fa_in (by assumption) rx_iM0 | exact fa_in (by assumption) rx_iM1) ?_
        refine rx_aload_n C.1 (pc := 65) d_Mod_replyAtMobile_65 rfl ?_
        refine g_Mod_13 D b ca C (pc := 66) d_Mod_replyAtMobile_66 ?_
        refine rx_bipush C.1 (v := 7) (pc := 69) d_Mod_replyAtMobile_69 (by decide) ?_
        refine rx_iald C (i := 73) (n := 9) (pc := 71) d_Mod_replyAtMobile_71 (rx_lt (by decide)) rfl (by first | assumption | exact rx_in2 (by assumption) | exact rx_v02 | exact rx_v12 | exact vp_in_iff.mpr (by decide) | exact fa_in (by assumption) (by assumption) | exact fa_in (by assumption) rx_iM0 | exact fa_in (by assumption) rx_iM1) ?_
        refine rx_aload_n C.1 (pc := 72) d_Mod_replyAtMobile_72 rfl ?_
        refine g_Mod_13 D b ca C (pc := 73) d_Mod_replyAtMobile_73 ?_
        refine rx_bipush C.1 (v := 6) (pc := 76) d_Mod_replyAtMobile_76 (by decide) ?_
        refine rx_iald C (i := 73) (n := 9) (pc := 78) d_Mod_replyAtMobile_78 (rx_lt (by decide)) rfl (by first | assumption | exact rx_in2 (by assumption) | exact rx_v02 | exact rx_v12 | exact vp_in_iff.mpr (by decide) | exact fa_in (by assumption) (by assumption) | exact fa_in (by assumption) rx_iM0 | exact fa_in (by assumption) rx_iM1) ?_
        refine rx_aload_n C.1 (pc := 79) d_Mod_replyAtMobile_79 rfl ?_
        refine g_Mod_13 D b ca C (pc := 80) d_Mod_replyAtMobile_80 ?_
        refine rx_iconst C.1 (v := 4) (pc := 83) d_Mod_replyAtMobile_83 (by decide) ?_
        refine rx_iald C (i := 73) (n := 9) (pc := 84) d_Mod_replyAtMobile_84 (rx_lt (by decide)) rfl (by first | assumption | exact rx_in2 (by assumption) | exact rx_v02 | exact rx_v12 | exact vp_in_iff.mpr (by decide) | exact fa_in (by assumption) (by assumption) | exact fa_in (by assumption) rx_iM0 | exact fa_in (by assumption) rx_iM1) ?_
        refine q_Mod_120 C.1 (pc := 85) d_Mod_replyAtMobile_85 (c_Mod_replySeal l ) ⟨Nat.le_of_ble_eq_true rfl, Nat.le_of_ble_eq_true rfl⟩ ⟨Nat.zero_le _, Nat.zero_le _⟩ (Nat.le_of_ble_eq_true rfl) ?_
        refine rx_icmp_eq C.1 (pc := 88) d_Mod_replyAtMobile_88 (tgt := 92) rfl (fun h4 => ?_) (fun h4 => ?_)
        ·
          refine rx_aload_n C.1 (pc := 92) d_Mod_replyAtMobile_92 rfl ?_
          refine g_Mod_37 D b ca C (pc := 93) d_Mod_replyAtMobile_93 ?_
          refine rx_iload_n C.1 (pc := 96) d_Mod_replyAtMobile_96 rfl ?_
          refine rx_iconst C.1 (v := 0) (pc := 97) d_Mod_replyAtMobile_97 (by decide) ?_
          refine rx_iast C (i := 81) (n := 2) (pc := 98) d_Mod_replyAtMobile_98 (rx_lt (by decide)) (fun _ => rfl) (by first | assumption | exact rx_in2 (by assumption) | exact rx_v02 | exact rx_v12 | exact vp_in_iff.mpr (by decide) | exact fa_in (by assumption) (by assumption) | exact fa_in (by assumption) rx_iM0 | exact fa_in (by assumption) rx_iM1) (rx_SI_wr (by omega)) ?_
          refine rx_nm (fun m1 e1 => ?_)
          refine rx_aload_n C.1 (pc := 99) d_Mod_replyAtMobile_99 rfl ?_
          refine g_Mod_13 D b ca C (pc := 100) d_Mod_replyAtMobile_100 ?_
          refine rx_bipush C.1 (v := 7) (pc := 103) d_Mod_replyAtMobile_103 (by decide) ?_
          refine rx_iald C (i := 73) (n := 9) (pc := 105) d_Mod_replyAtMobile_105 (rx_lt (by decide)) rfl (by first | assumption | exact rx_in2 (by assumption) | exact rx_v02 | exact rx_v12 | exact vp_in_iff.mpr (by decide) | exact fa_in (by assumption) (by assumption) | exact fa_in (by assumption) rx_iM0 | exact fa_in (by assumption) rx_iM1) ?_
          refine rx_if_ne C.1 (pc := 106) d_Mod_replyAtMobile_106 (tgt := 155) rfl (fun h5 => ?_) (fun h5 => ?_)
          ·
            exact rx_vret C (pc := 155) d_Mod_replyAtMobile_155 (by subst e1; unfold sp_Mod_replyAtMobile; first | (simp only [if_neg h1, if_pos h2, if_neg h3, if_pos h4, if_neg h5]; done) | (simp only [if_neg h1, if_pos h2, if_neg h3, if_pos h4, if_neg h5]; rfl))
          ·
            refine rx_aload_n C.1 (pc := 109) d_Mod_replyAtMobile_109 rfl ?_
            refine g_Mod_25 D b ca C (pc := 110) d_Mod_replyAtMobile_110 ?_
            refine rx_iload_n C.1 (pc := 113) d_Mod_replyAtMobile_113 rfl ?_
            refine rx_aload_n C.1 (pc := 114) d_Mod_replyAtMobile_114 rfl ?_
            refine g_Mod_13 D b ca C (pc := 115) d_Mod_replyAtMobile_115 ?_
            refine rx_iconst C.1 (v := 5) (pc := 118) d_Mod_replyAtMobile_118 (by decide) ?_
            refine rx_iald C (i := 73) (n := 9) (pc := 119) d_Mod_replyAtMobile_119 (rx_lt (by decide)) rfl (by first | assumption | exact rx_in2 (by assumption) | exact rx_v02 | exact rx_v12 | exact vp_in_iff.mpr (by decide) | exact fa_in (by assumption) (by assumption) | exact fa_in (by assumption) rx_iM0 | exact fa_in (by assumption) rx_iM1) ?_
            refine rx_iast C (i := 77) (n := 2) (pc := 120) d_Mod_replyAtMobile_120 (rx_lt (by decide)) (fun _ => rfl) (by first | assumption | exact rx_in2 (by assumption) | exact rx_v02 | exact rx_v12 | exact vp_in_iff.mpr (by decide) | exact fa_in (by assumption) (by assumption) | exact fa_in (by assumption) rx_iM0 | exact fa_in (by assumption) rx_iM1) (rx_SI_wr (by omega)) ?_
            refine rx_nm (fun m2 e2 => ?_)
            refine rx_aload_n C.1 (pc := 121) d_Mod_replyAtMobile_121 rfl ?_
            refine g_Mod_28 D b ca C (pc := 122) d_Mod_replyAtMobile_122 ?_
            refine rx_iload_n C.1 (pc := 125) d_Mod_replyAtMobile_125 rfl ?_
            refine rx_aload_n C.1 (pc := 126) d_Mod_replyAtMobile_126 rfl ?_
            refine g_Mod_13 D b ca C (pc := 127) d_Mod_replyAtMobile_127 ?_
            refine rx_iconst C.1 (v := 5) (pc := 130) d_Mod_replyAtMobile_130 (by decide) ?_
            refine rx_iald C (i := 73) (n := 9) (pc := 131) d_Mod_replyAtMobile_131 (rx_lt (by decide)) rfl (by first | assumption | exact rx_in2 (by assumption) | exact rx_v02 | exact rx_v12 | exact vp_in_iff.mpr (by decide) | exact fa_in (by assumption) (by assumption) | exact fa_in (by assumption) rx_iM0 | exact fa_in (by assumption) rx_iM1) ?_
            refine rx_cut1 (jpc := 154) (v := if (m2 73 (Int32.toNatClampNeg 5)) = 0 then 2147483647 else ((m2 83 m.toNatClampNeg) + (m2 73 (Int32.toNatClampNeg 6)))) (fun hk => ?_) ?_
            ·
              refine rx_if_ne C.1 (pc := 132) d_Mod_replyAtMobile_132 (tgt := 140) rfl (fun h6 => ?_) (fun h6 => ?_)
              ·
                refine rx_aload_n C.1 (pc := 140) d_Mod_replyAtMobile_140 rfl ?_
                refine g_Mod_43 D b ca C (pc := 141) d_Mod_replyAtMobile_141 ?_
                refine rx_iload_n C.1 (pc := 144) d_Mod_replyAtMobile_144 rfl ?_
                refine rx_iald C (i := 83) (n := 2) (pc := 145) d_Mod_replyAtMobile_145 (rx_lt (by decide)) rfl (by first | assumption | exact rx_in2 (by assumption) | exact rx_v02 | exact rx_v12 | exact vp_in_iff.mpr (by decide) | exact fa_in (by assumption) (by assumption) | exact fa_in (by assumption) rx_iM0 | exact fa_in (by assumption) rx_iM1) ?_
                refine rx_aload_n C.1 (pc := 146) d_Mod_replyAtMobile_146 rfl ?_
                refine g_Mod_13 D b ca C (pc := 147) d_Mod_replyAtMobile_147 ?_
                refine rx_bipush C.1 (v := 6) (pc := 150) d_Mod_replyAtMobile_150 (by decide) ?_
                refine rx_iald C (i := 73) (n := 9) (pc := 152) d_Mod_replyAtMobile_152 (rx_lt (by decide)) rfl (by first | assumption | exact rx_in2 (by assumption) | exact rx_v02 | exact rx_v12 | exact vp_in_iff.mpr (by decide) | exact fa_in (by assumption) (by assumption) | exact fa_in (by assumption) rx_iM0 | exact fa_in (by assumption) rx_iM1) ?_
                refine rx_iadd C.1 (pc := 153) d_Mod_replyAtMobile_153 ?_
                rw [if_neg h6] at hk
                exact hk
              ·
                refine rx_ldc C.1 (v := 2147483647) k_Mod_92 (pc := 135) d_Mod_replyAtMobile_135 ?_
                refine rx_goto C.1 (pc := 137) d_Mod_replyAtMobile_137 (tgt := 154) rfl ?_
                rw [if_pos h6] at hk
                exact hk
            refine rx_iast C (i := 78) (n := 2) (pc := 154) d_Mod_replyAtMobile_154 (rx_lt (by decide)) (fun _ => rfl) (by first | assumption | exact rx_in2 (by assumption) | exact rx_v02 | exact rx_v12 | exact vp_in_iff.mpr (by decide) | exact fa_in (by assumption) (by assumption) | exact fa_in (by assumption) rx_iM0 | exact fa_in (by assumption) rx_iM1) (rx_SI_wr (by omega)) ?_
            refine rx_nm (fun m3 e3 => ?_)
            exact rx_vret C (pc := 155) d_Mod_replyAtMobile_155 (by subst e3 e2 e1; unfold sp_Mod_replyAtMobile; first | (simp only [if_neg h1, if_pos h2, if_neg h3, if_pos h4, if_pos h5]; done) | (simp only [if_neg h1, if_pos h2, if_neg h3, if_pos h4, if_pos h5]; rfl))
        ·
          exact rx_vret C (pc := 91) d_Mod_replyAtMobile_91 (by unfold sp_Mod_replyAtMobile; first | (simp only [if_neg h1, if_pos h2, if_neg h3, if_neg h4]; done) | (simp only [if_neg h1, if_pos h2, if_neg h3, if_neg h4]; rfl))
      ·
        refine rx_aload_n C.1 (pc := 37) d_Mod_replyAtMobile_37 rfl ?_
        refine g_Mod_37 D b ca C (pc := 38) d_Mod_replyAtMobile_38 ?_
        refine rx_iload_n C.1 (pc := 41) d_Mod_replyAtMobile_41 rfl ?_
        refine rx_iconst C.1 (v := 0) (pc := 42) d_Mod_replyAtMobile_42 (by decide) ?_
        refine rx_iast C (i := 81) (n := 2) (pc := 43) d_Mod_replyAtMobile_43 (rx_lt (by decide)) (fun _ => rfl) (by first | assumption | exact rx_in2 (by assumption) | exact rx_v02 | exact rx_v12 | exact vp_in_iff.mpr (by decide) | exact fa_in (by assumption) (by assumption) | exact fa_in (by assumption) rx_iM0 | exact fa_in (by assumption) rx_iM1) (rx_SI_wr (by omega)) ?_
        refine rx_nm (fun m4 e4 => ?_)
        exact rx_vret C (pc := 44) d_Mod_replyAtMobile_44 (by subst e4; unfold sp_Mod_replyAtMobile; first | (simp only [if_neg h1, if_pos h2, if_pos h3]; done) | (simp only [if_neg h1, if_pos h2, if_pos h3]; rfl))
    ·
      exact rx_vret C (pc := 24) d_Mod_replyAtMobile_24 (by unfold sp_Mod_replyAtMobile; first | (simp only [if_neg h1, if_neg h2]; done) | (simp only [if_neg h1, if_neg h2]; rfl))

def sp_Mod_dataAtMobile (σ : rMem) (m : Int32) : rMem := let m1 := rx_wr σ 84 m.toNatClampNeg (if (σ 73 (Int32.toNatClampNeg 4)) = ((σ 84 m.toNatClampNeg) + 1) then (σ 73 (Int32.toNatClampNeg 4)) else (σ 84 m.toNatClampNeg) : Int32); let m2 := sp_Mod_send m1 6 4 m 0 (m1 84 m.toNatClampNeg) 0 0 0 0; m2
set_option maxHeartbeats 4000000 in
set_option maxRecDepth 100000 in
theorem c_Mod_dataAtMobile (l : Launch) (D : va_G) (b : Nat) (ca : Nat → ClassId) {σ : rMem} {m : Int32} (hm : rx_iM m) : rx_C l (rx_fin D b ca) y_Mod_dataAtMobile b_Mod_dataAtMobile 2 none (rx_rm 1) [.ref (rg_A (rx_fin D b ca) 71), .int m] σ none (sp_Mod_dataAtMobile σ m) := by
  refine rx_of (lo := [(0, .ref (rg_A (rx_fin D b ca) 71)), (1, .int m)]) (by decide) (rx_fin_D D b ca) rfl (Nat.le_of_ble_eq_true rfl) rfl ?_
  intro p e s mm below meth c C
  refine rx_aload_n C.1 (pc := 0) d_Mod_dataAtMobile_0 rfl ?_
  refine g_Mod_46 D b ca C (pc := 1) d_Mod_dataAtMobile_1 ?_
  refine rx_iload_n C.1 (pc := 4) d_Mod_dataAtMobile_4 rfl ?_
  refine rx_aload_n C.1 (pc := 5) d_Mod_dataAtMobile_5 rfl ?_
  refine g_Mod_13 D b ca C (pc := 6) d_Mod_dataAtMobile_6 ?_
  refine rx_iconst C.1 (v := 4) (pc := 9) d_Mod_dataAtMobile_9 (by decide) ?_
  refine rx_iald C (i := 73) (n := 9) (pc := 10) d_Mod_dataAtMobile_10 (rx_lt (by decide)) rfl (by first | assumption | exact rx_in2 (by assumption) | exact rx_v02 | exact rx_v12 | exact vp_in_iff.mpr (by decide) | exact fa_in (by assumption) (by assumption) | exact fa_in (by assumption) rx_iM0 | exact fa_in (by assumption) rx_iM1) ?_
  refine rx_aload_n C.1 (pc := 11) d_Mod_dataAtMobile_11 rfl ?_
  refine g_Mod_46 D b ca C (pc := 12) d_Mod_dataAtMobile_12 ?_
  refine rx_iload_n C.1 (pc := 15) d_Mod_dataAtMobile_15 rfl ?_
  refine rx_iald C (i := 84) (n := 2) (pc := 16) d_Mod_dataAtMobile_16 (rx_lt (by decide)) rfl (by first | assumption | exact rx_in2 (by assumption) | exact rx_v02 | exact rx_v12 | exact vp_in_iff.mpr (by decide) | exact fa_in (by assumption) (by assumption) | exact fa_in (by assumption) rx_iM0 | exact fa_in (by assumption) rx_iM1) ?_
  refine rx_iconst C.1 (v := 1) (pc := 17) d_Mod_dataAtMobile_17 (by decide) ?_
  refine rx_iadd C.1 (pc := 18) d_Mod_dataAtMobile_18 ?_
  refine rx_cut2 (jpc := 37) (v := if (σ 73 (Int32.toNatClampNeg 4)) = ((σ 84 m.toNatClampNeg) + 1) then (σ 73 (Int32.toNatClampNeg 4)) else (σ 84 m.toNatClampNeg)) (fun hk => ?_) ?_
  ·
    refine rx_icmp_ne C.1 (pc := 19) d_Mod_dataAtMobile_19 (tgt := 31) rfl (fun h1 => ?_) (fun h1 => ?_)
    ·
      refine rx_aload_n C.1 (pc := 31) d_Mod_dataAtMobile_31 rfl ?_
      refine g_Mod_46 D b ca C (pc := 32) d_Mod_dataAtMobile_32 ?_
      refine rx_iload_n C.1 (pc := 35) d_Mod_dataAtMobile_35 rfl ?_
      refine rx_iald C (i := 84) (n := 2) (pc := 36) d_Mod_dataAtMobile_36 (rx_lt (by decide)) rfl (by first | assumption | exact rx_in2 (by assumption) | exact rx_v02 | exact rx_v12 | exact vp_in_iff.mpr (by decide) | exact fa_in (by assumption) (by assumption) | exact fa_in (by assumption) rx_iM0 | exact fa_in (by assumption) rx_iM1) ?_
      rw [if_neg h1] at hk
      exact hk
    ·
      refine rx_aload_n C.1 (pc := 22) d_Mod_dataAtMobile_22 rfl ?_
      refine g_Mod_13 D b ca C (pc := 23) d_Mod_dataAtMobile_23 ?_
      refine rx_iconst C.1 (v := 4) (pc := 26) d_Mod_dataAtMobile_26 (by decide) ?_
      refine rx_iald C (i := 73) (n := 9) (pc := 27) d_Mod_dataAtMobile_27 (rx_lt (by decide)) rfl (by first | assumption | exact rx_in2 (by assumption) | exact rx_v02 | exact rx_v12 | exact vp_in_iff.mpr (by decide) | exact fa_in (by assumption) (by assumption) | exact fa_in (by assumption) rx_iM0 | exact fa_in (by assumption) rx_iM1) ?_
      refine rx_goto C.1 (pc := 28) d_Mod_dataAtMobile_28 (tgt := 37) rfl ?_
      rw [if_pos h1] at hk
      exact hk
  refine rx_iast C (i := 84) (n := 2) (pc := 37) d_Mod_dataAtMobile_37 (rx_lt (by decide)) (fun _ => rfl) (by first | assumption | exact rx_in2 (by assumption) | exact rx_v02 | exact rx_v12 | exact vp_in_iff.mpr (by decide) | exact fa_in (by assumption) (by assumption) | exact fa_in (by assumption) rx_iM0 | exact fa_in (by assumption) rx_iM1) (rx_SI_wr (by omega)) ?_
  refine rx_nm (fun m1 e1 => ?_)
  refine rx_aload_n C.1 (pc := 38) d_Mod_dataAtMobile_38 rfl ?_
  refine rx_bipush C.1 (v := 6) (pc := 39) d_Mod_dataAtMobile_39 (by decide) ?_
  refine rx_iconst C.1 (v := 4) (pc := 41) d_Mod_dataAtMobile_41 (by decide) ?_
  refine rx_iload_n C.1 (pc := 42) d_Mod_dataAtMobile_42 rfl ?_
  refine rx_iconst C.1 (v := 0) (pc := 43) d_Mod_dataAtMobile_43 (by decide) ?_
  refine rx_aload_n C.1 (pc := 44) d_Mod_dataAtMobile_44 rfl ?_
  refine g_Mod_46 D b ca C (pc := 45) d_Mod_dataAtMobile_45 ?_
  refine rx_iload_n C.1 (pc := 48) d_Mod_dataAtMobile_48 rfl ?_
  refine rx_iald C (i := 84) (n := 2) (pc := 49) d_Mod_dataAtMobile_49 (rx_lt (by decide)) rfl (by first | assumption | exact rx_in2 (by assumption) | exact rx_v02 | exact rx_v12 | exact vp_in_iff.mpr (by decide) | exact fa_in (by assumption) (by assumption) | exact fa_in (by assumption) rx_iM0 | exact fa_in (by assumption) rx_iM1) ?_
  refine rx_iconst C.1 (v := 0) (pc := 50) d_Mod_dataAtMobile_50 (by decide) ?_
  refine rx_iconst C.1 (v := 0) (pc := 51) d_Mod_dataAtMobile_51 (by decide) ?_
  refine rx_iconst C.1 (v := 0) (pc := 52) d_Mod_dataAtMobile_52 (by decide) ?_
  refine rx_iconst C.1 (v := 0) (pc := 53) d_Mod_dataAtMobile_53 (by decide) ?_
  refine q_Mod_109 D b ca C (pc := 54) d_Mod_dataAtMobile_54 (c_Mod_send l D b ca ) ⟨Nat.le_of_ble_eq_true rfl, Nat.le_of_ble_eq_true rfl⟩ ⟨Nat.zero_le _, Nat.zero_le _⟩ (Nat.le_of_ble_eq_true rfl) ?_
  refine rx_nm (fun m2 e2 => ?_)
  exact rx_vret C (pc := 57) d_Mod_dataAtMobile_57 (by subst e2 e1; unfold sp_Mod_dataAtMobile; first | with_reducible rfl | (simp only []; done) | rfl)

def sp_Mod_requestAtHome (σ : rMem) (m : Int32) : rMem := if (if (if (σ 73 (Int32.toNatClampNeg 8)) = (rv_Mod_requestSeal (σ 85 m.toNatClampNeg) m (σ 73 (Int32.toNatClampNeg 5)) (σ 73 (Int32.toNatClampNeg 6)) (σ 73 (Int32.toNatClampNeg 4))) then 1 else 0 : Int32) = 0 then 131 else (if (σ 86 m.toNatClampNeg) < (σ 73 (Int32.toNatClampNeg 4)) then 0 else 133) : Int32) = 0 then (let m2 := rx_wr σ 86 m.toNatClampNeg (σ 73 (Int32.toNatClampNeg 4)); let m3 := rx_wr m2 87 m.toNatClampNeg (m2 73 (Int32.toNatClampNeg 5)); let m4 := rx_wr m3 88 m.toNatClampNeg (if (m3 73 (Int32.toNatClampNeg 6)) = 0 then 0 else ((m3 71 3) + (if (if (if (σ 73 (Int32.toNatClampNeg 8)) = (rv_Mod_requestSeal (σ 85 m.toNatClampNeg) m (σ 73 (Int32.toNatClampNeg 5)) (σ 73 (Int32.toNatClampNeg 6)) (σ 73 (Int32.toNatClampNeg 4))) then 1 else 0 : Int32) = 0 then 131 else (if (σ 86 m.toNatClampNeg) < (σ 73 (Int32.toNatClampNeg 4)) then 0 else 133) : Int32) = 0 then (if (σ 71 1) ≤ (σ 73 (Int32.toNatClampNeg 6)) then (σ 71 1) else (σ 73 (Int32.toNatClampNeg 6))) else 0 : Int32)) : Int32); let m5 := sp_Mod_send m4 3 (if (m4 73 (Int32.toNatClampNeg 5)) = 0 then 5 else (m4 73 (Int32.toNatClampNeg 5)) : Int32) m 0 (m4 73 (Int32.toNatClampNeg 4)) (m4 73 (Int32.toNatClampNeg 5)) (if (if (if (σ 73 (Int32.toNatClampNeg 8)) = (rv_Mod_requestSeal (σ 85 m.toNatClampNeg) m (σ 73 (Int32.toNatClampNeg 5)) (σ 73 (Int32.toNatClampNeg 6)) (σ 73 (Int32.toNatClampNeg 4))) then 1 else 0 : Int32) = 0 then 131 else (if (σ 86 m.toNatClampNeg) < (σ 73 (Int32.toNatClampNeg 4)) then 0 else 133) : Int32) = 0 then (if (σ 71 1) ≤ (σ 73 (Int32.toNatClampNeg 6)) then (σ 71 1) else (σ 73 (Int32.toNatClampNeg 6))) else 0 : Int32) (if (if (σ 73 (Int32.toNatClampNeg 8)) = (rv_Mod_requestSeal (σ 85 m.toNatClampNeg) m (σ 73 (Int32.toNatClampNeg 5)) (σ 73 (Int32.toNatClampNeg 6)) (σ 73 (Int32.toNatClampNeg 4))) then 1 else 0 : Int32) = 0 then 131 else (if (σ 86 m.toNatClampNeg) < (σ 73 (Int32.toNatClampNeg 4)) then 0 else 133) : Int32) (rv_Mod_replySeal (m4 85 m.toNatClampNeg) m (m4 73 (Int32.toNatClampNeg 5)) (if (if (σ 73 (Int32.toNatClampNeg 8)) = (rv_Mod_requestSeal (σ 85 m.toNatClampNeg) m (σ 73 (Int32.toNatClampNeg 5)) (σ 73 (Int32.toNatClampNeg 6)) (σ 73 (Int32.toNatClampNeg 4))) then 1 else 0 : Int32) = 0 then 131 else (if (σ 86 m.toNatClampNeg) < (σ 73 (Int32.toNatClampNeg 4)) then 0 else 133) : Int32) (if (if (if (σ 73 (Int32.toNatClampNeg 8)) = (rv_Mod_requestSeal (σ 85 m.toNatClampNeg) m (σ 73 (Int32.toNatClampNeg 5)) (σ 73 (Int32.toNatClampNeg 6)) (σ 73 (Int32.toNatClampNeg 4))) then 1 else 0 : Int32) = 0 then 131 else (if (σ 86 m.toNatClampNeg) < (σ 73 (Int32.toNatClampNeg 4)) then 0 else 133) : Int32) = 0 then (if (σ 71 1) ≤ (σ 73 (Int32.toNatClampNeg 6)) then (σ 71 1) else (σ 73 (Int32.toNatClampNeg 6))) else 0 : Int32) (m4 73 (Int32.toNatClampNeg 4))); m5) else (let m1 := sp_Mod_send σ 3 (if (σ 73 (Int32.toNatClampNeg 5)) = 0 then 5 else (σ 73 (Int32.toNatClampNeg 5)) : Int32) m 0 (σ 73 (Int32.toNatClampNeg 4)) (σ 73 (Int32.toNatClampNeg 5)) (if (if (if (σ 73 (Int32.toNatClampNeg 8)) = (rv_Mod_requestSeal (σ 85 m.toNatClampNeg) m (σ 73 (Int32.toNatClampNeg 5)) (σ 73 (Int32.toNatClampNeg 6)) (σ 73 (Int32.toNatClampNeg 4))) then 1 else 0 : Int32) = 0 then 131 else (if (σ 86 m.toNatClampNeg) < (σ 73 (Int32.toNatClampNeg 4)) then 0 else 133) : Int32) = 0 then (if (σ 71 1) ≤ (σ 73 (Int32.toNatClampNeg 6)) then (σ 71 1) else (σ 73 (Int32.toNatClampNeg 6))) else 0 : Int32) (if (if (σ 73 (Int32.toNatClampNeg 8)) = (rv_Mod_requestSeal (σ 85 m.toNatClampNeg) m (σ 73 (Int32.toNatClampNeg 5)) (σ 73 (Int32.toNatClampNeg 6)) (σ 73 (Int32.toNatClampNeg 4))) then 1 else 0 : Int32) = 0 then 131 else (if (σ 86 m.toNatClampNeg) < (σ 73 (Int32.toNatClampNeg 4)) then 0 else 133) : Int32) (rv_Mod_replySeal (σ 85 m.toNatClampNeg) m (σ 73 (Int32.toNatClampNeg 5)) (if (if (σ 73 (Int32.toNatClampNeg 8)) = (rv_Mod_requestSeal (σ 85 m.toNatClampNeg) m (σ 73 (Int32.toNatClampNeg 5)) (σ 73 (Int32.toNatClampNeg 6)) (σ 73 (Int32.toNatClampNeg 4))) then 1 else 0 : Int32) = 0 then 131 else (if (σ 86 m.toNatClampNeg) < (σ 73 (Int32.toNatClampNeg 4)) then 0 else 133) : Int32) (if (if (if (σ 73 (Int32.toNatClampNeg 8)) = (rv_Mod_requestSeal (σ 85 m.toNatClampNeg) m (σ 73 (Int32.toNatClampNeg 5)) (σ 73 (Int32.toNatClampNeg 6)) (σ 73 (Int32.toNatClampNeg 4))) then 1 else 0 : Int32) = 0 then 131 else (if (σ 86 m.toNatClampNeg) < (σ 73 (Int32.toNatClampNeg 4)) then 0 else 133) : Int32) = 0 then (if (σ 71 1) ≤ (σ 73 (Int32.toNatClampNeg 6)) then (σ 71 1) else (σ 73 (Int32.toNatClampNeg 6))) else 0 : Int32) (σ 73 (Int32.toNatClampNeg 4))); m1)
set_option maxHeartbeats 4000000 in
set_option maxRecDepth 100000 in
theorem c_Mod_requestAtHome (l : Launch) (D : va_G) (b : Nat) (ca : Nat → ClassId) {σ : rMem} {m : Int32} (hm : rx_iM m) : rx_C l (rx_fin D b ca) y_Mod_requestAtHome b_Mod_requestAtHome 6 none (rx_rm 2) [.ref (rg_A (rx_fin D b ca) 71), .int m] σ none (sp_Mod_requestAtHome σ m) := by
  refine rx_of (lo := [(0, .ref (rg_A (rx_fin D b ca) 71)), (1, .int m)]) (by decide) (rx_fin_D D b ca) rfl (Nat.le_of_ble_eq_true rfl) rfl ?_
  intro p e s mm below meth c C
  refine rx_aload_n C.1 (pc := 0) d_Mod_requestAtHome_0 rfl ?_
  refine g_Mod_13 D b ca C (pc := 1) d_Mod_requestAtHome_1 ?_
  refine rx_bipush C.1 (v := 8) (pc := 4) d_Mod_requestAtHome_4 (by decide) ?_
  refine rx_iald C (i := 73) (n := 9) (pc := 6) d_Mod_requestAtHome_6 (rx_lt (by decide)) rfl (by first | assumption | exact rx_in2 (by assumption) | exact rx_v02 | exact rx_v12 | exact vp_in_iff.mpr (by decide) | exact fa_in (by assumption) (by assumption) | exact fa_in (by assumption) rx_iM0 | exact fa_in (by assumption) rx_iM1) ?_
  refine rx_aload_n C.1 (pc := 7) d_Mod_requestAtHome_7 rfl ?_
  refine g_Mod_49 D b ca C (pc := 8) d_Mod_requestAtHome_8 ?_
  refine rx_iload_n C.1 (pc := 11) d_Mod_requestAtHome_11 rfl ?_
  refine rx_iald C (i := 85) (n := 2) (pc := 12) d_Mod_requestAtHome_12 (rx_lt (by decide)) rfl (by first | assumption | exact rx_in2 (by assumption) | exact rx_v02 | exact rx_v12 | exact vp_in_iff.mpr (by decide) | exact fa_in (by assumption) (by assumption) | exact fa_in (by assumption) rx_iM0 | exact fa_in (by assumption) rx_iM1) ?_
  refine rx_iload_n C.1 (pc := 13) d_Mod_requestAtHome_13 rfl ?_
  refine rx_aload_n C.1 (pc := 14) d_Mod_requestAtHome_14 rfl ?_
  refine g_Mod_13 D b ca C (pc := 15) d_Mod_requestAtHome_15 ?_
  refine rx_iconst C.1 (v := 5) (pc := 18) d_Mod_requestAtHome_18 (by decide) ?_
  refine rx_iald C (i := 73) (n := 9) (pc := 19) d_Mod_requestAtHome_19 (rx_lt (by decide)) rfl (by first | assumption | exact rx_in2 (by assumption) | exact rx_v02 | exact rx_v12 | exact vp_in_iff.mpr (by decide) | exact fa_in (by assumption) (by assumption) | exact fa_in (by assumption) rx_iM0 | exact fa_in (by assumption) rx_iM1) ?_
  refine rx_aload_n C.1 (pc := 20) d_Mod_requestAtHome_20 rfl ?_
  refine g_Mod_13 D b ca C (pc := 21) d_Mod_requestAtHome_21 ?_
  refine rx_bipush C.1 (v := 6) (pc := 24) d_Mod_requestAtHome_24 (by decide) ?_
  refine rx_iald C (i := 73) (n := 9) (pc := 26) d_Mod_requestAtHome_26 (rx_lt (by decide)) rfl (by first | assumption | exact rx_in2 (by assumption) | exact rx_v02 | exact rx_v12 | exact vp_in_iff.mpr (by decide) | exact fa_in (by assumption) (by assumption) | exact fa_in (by assumption) rx_iM0 | exact fa_in (by assumption) rx_iM1) ?_
  refine rx_aload_n C.1 (pc := 27) d_Mod_requestAtHome_27 rfl ?_
  refine g_Mod_13 D b ca C (pc := 28) d_Mod_requestAtHome_28 ?_
  refine rx_iconst C.1 (v := 4) (pc := 31) d_Mod_requestAtHome_31 (by decide) ?_
  refine rx_iald C (i := 73) (n := 9) (pc := 32) d_Mod_requestAtHome_32 (rx_lt (by decide)) rfl (by first | assumption | exact rx_in2 (by assumption) | exact rx_v02 | exact rx_v12 | exact vp_in_iff.mpr (by decide) | exact fa_in (by assumption) (by assumption) | exact fa_in (by assumption) rx_iM0 | exact fa_in (by assumption) rx_iM1) ?_
  refine q_Mod_105 C.1 (pc := 33) d_Mod_requestAtHome_33 (c_Mod_requestSeal l ) ⟨Nat.le_of_ble_eq_true rfl, Nat.le_of_ble_eq_true rfl⟩ ⟨Nat.zero_le _, Nat.zero_le _⟩ (Nat.le_of_ble_eq_true rfl) ?_
  refine rx_cut2 (jpc := 44) (v := if (σ 73 (Int32.toNatClampNeg 8)) = (rv_Mod_requestSeal (σ 85 m.toNatClampNeg) m (σ 73 (Int32.toNatClampNeg 5)) (σ 73 (Int32.toNatClampNeg 6)) (σ 73 (Int32.toNatClampNeg 4))) then 1 else 0) (fun hk => ?_) ?_
  ·
    refine rx_icmp_ne C.1 (pc := 36) d_Mod_requestAtHome_36 (tgt := 43) rfl (fun h1 => ?_) (fun h1 => ?_)
    ·
      refine rx_iconst C.1 (v := 0) (pc := 43) d_Mod_requestAtHome_43 (by decide) ?_
      rw [if_neg h1] at hk
      exact hk
    ·
      refine rx_iconst C.1 (v := 1) (pc := 39) d_Mod_requestAtHome_39 (by decide) ?_
      refine rx_goto C.1 (pc := 40) d_Mod_requestAtHome_40 (tgt := 44) rfl ?_
      rw [if_pos h1] at hk
      exact hk
  refine rx_istore_n C.1 (pc := 44) d_Mod_requestAtHome_44 (by decide) ?_
  refine rx_iload_n C.1 (pc := 45) d_Mod_requestAtHome_45 rfl ?_
  refine rx_cut1 (jpc := 77) (v := if (if (σ 73 (Int32.toNatClampNeg 8)) = (rv_Mod_requestSeal (σ 85 m.toNatClampNeg) m (σ 73 (Int32.toNatClampNeg 5)) (σ 73 (Int32.toNatClampNeg 6)) (σ 73 (Int32.toNatClampNeg 4))) then 1 else 0 : Int32) = 0 then 131 else (if (σ 86 m.toNatClampNeg) < (σ 73 (Int32.toNatClampNeg 4)) then 0 else 133)) (fun hk => ?_) ?_
  ·
    refine rx_if_ne C.1 (pc := 46) d_Mod_requestAtHome_46 (tgt := 55) rfl (fun h2 => ?_) (fun h2 => ?_)
    ·
      refine rx_aload_n C.1 (pc := 55) d_Mod_requestAtHome_55 rfl ?_
      refine g_Mod_13 D b ca C (pc := 56) d_Mod_requestAtHome_56 ?_
      refine rx_iconst C.1 (v := 4) (pc := 59) d_Mod_requestAtHome_59 (by decide) ?_
      refine rx_iald C (i := 73) (n := 9) (pc := 60) d_Mod_requestAtHome_60 (rx_lt (by decide)) rfl (by first | assumption | exact rx_in2 (by assumption) | exact rx_v02 | exact rx_v12 | exact vp_in_iff.mpr (by decide) | exact fa_in (by assumption) (by assumption) | exact fa_in (by assumption) rx_iM0 | exact fa_in (by assumption) rx_iM1) ?_
      refine rx_aload_n C.1 (pc := 61) d_Mod_requestAtHome_61 rfl ?_
      refine g_Mod_52 D b ca C (pc := 62) d_Mod_requestAtHome_62 ?_
      refine rx_iload_n C.1 (pc := 65) d_Mod_requestAtHome_65 rfl ?_
      refine rx_iald C (i := 86) (n := 2) (pc := 66) d_Mod_requestAtHome_66 (rx_lt (by decide)) rfl (by first | assumption | exact rx_in2 (by assumption) | exact rx_v02 | exact rx_v12 | exact vp_in_iff.mpr (by decide) | exact fa_in (by assumption) (by assumption) | exact fa_in (by assumption) rx_iM0 | exact fa_in (by assumption) rx_iM1) ?_
      refine rx_icmp_gt C.1 (pc := 67) d_Mod_requestAtHome_67 (tgt := 76) rfl (fun h3 => ?_) (fun h3 => ?_)
      ·
        refine rx_iconst C.1 (v := 0) (pc := 76) d_Mod_requestAtHome_76 (by decide) ?_
        rw [if_neg h2, if_pos h3] at hk
        exact hk
      ·
        refine rx_sipush C.1 (v := 133) (pc := 70) d_Mod_requestAtHome_70 (by decide) ?_
        refine rx_goto C.1 (pc := 73) d_Mod_requestAtHome_73 (tgt := 77) rfl ?_
        rw [if_neg h2, if_neg h3] at hk
        exact hk
    ·
      refine rx_sipush C.1 (v := 131) (pc := 49) d_Mod_requestAtHome_49 (by decide) ?_
      refine rx_goto C.1 (pc := 52) d_Mod_requestAtHome_52 (tgt := 77) rfl ?_
      rw [if_pos h2] at hk
      exact hk
  refine rx_istore_n C.1 (pc := 77) d_Mod_requestAtHome_77 (by decide) ?_
  refine rx_iload_n C.1 (pc := 78) d_Mod_requestAtHome_78 rfl ?_
  refine rx_cut1 (jpc := 114) (v := if (if (if (σ 73 (Int32.toNatClampNeg 8)) = (rv_Mod_requestSeal (σ 85 m.toNatClampNeg) m (σ 73 (Int32.toNatClampNeg 5)) (σ 73 (Int32.toNatClampNeg 6)) (σ 73 (Int32.toNatClampNeg 4))) then 1 else 0 : Int32) = 0 then 131 else (if (σ 86 m.toNatClampNeg) < (σ 73 (Int32.toNatClampNeg 4)) then 0 else 133) : Int32) = 0 then (if (σ 71 1) ≤ (σ 73 (Int32.toNatClampNeg 6)) then (σ 71 1) else (σ 73 (Int32.toNatClampNeg 6))) else 0) (fun hk => ?_) ?_
  ·
    refine rx_if_eq C.1 (pc := 79) d_Mod_requestAtHome_79 (tgt := 86) rfl (fun h4 => ?_) (fun h4 => ?_)
    ·
      refine rx_aload_n C.1 (pc := 86) d_Mod_requestAtHome_86 rfl ?_
      refine g_Mod_13 D b ca C (pc := 87) d_Mod_requestAtHome_87 ?_
      refine rx_bipush C.1 (v := 6) (pc := 90) d_Mod_requestAtHome_90 (by decide) ?_
      refine rx_iald C (i := 73) (n := 9) (pc := 92) d_Mod_requestAtHome_92 (rx_lt (by decide)) rfl (by first | assumption | exact rx_in2 (by assumption) | exact rx_v02 | exact rx_v12 | exact vp_in_iff.mpr (by decide) | exact fa_in (by assumption) (by assumption) | exact fa_in (by assumption) rx_iM0 | exact fa_in (by assumption) rx_iM1) ?_
      refine rx_aload_n C.1 (pc := 93) d_Mod_requestAtHome_93 rfl ?_
      refine g_Mod_86 D b ca C (pc := 94) d_Mod_requestAtHome_94 ?_
      refine rx_icmp_ge C.1 (pc := 97) d_Mod_requestAtHome_97 (tgt := 110) rfl (fun h5 => ?_) (fun h5 => ?_)
      ·
        refine rx_aload_n C.1 (pc := 110) d_Mod_requestAtHome_110 rfl ?_
        refine g_Mod_86 D b ca C (pc := 111) d_Mod_requestAtHome_111 ?_
        rw [if_pos h4, if_pos h5] at hk
        exact hk
      ·
        refine rx_aload_n C.1 (pc := 100) d_Mod_requestAtHome_100 rfl ?_
        refine g_Mod_13 D b ca C (pc := 101) d_Mod_requestAtHome_101 ?_
        refine rx_bipush C.1 (v := 6) (pc := 104) d_Mod_requestAtHome_104 (by decide) ?_
        refine rx_iald C (i := 73) (n := 9) (pc := 106) d_Mod_requestAtHome_106 (rx_lt (by decide)) rfl (by first | assumption | exact rx_in2 (by assumption) | exact rx_v02 | exact rx_v12 | exact vp_in_iff.mpr (by decide) | exact fa_in (by assumption) (by assumption) | exact fa_in (by assumption) rx_iM0 | exact fa_in (by assumption) rx_iM1) ?_
        refine rx_goto C.1 (pc := 107) d_Mod_requestAtHome_107 (tgt := 114) rfl ?_
        rw [if_pos h4, if_neg h5] at hk
        exact hk
    ·
      refine rx_iconst C.1 (v := 0) (pc := 82) d_Mod_requestAtHome_82 (by decide) ?_
      refine rx_goto C.1 (pc := 83) d_Mod_requestAtHome_83 (tgt := 114) rfl ?_
      rw [if_neg h4] at hk
      exact hk
  refine rx_istore C.1 (pc := 114) d_Mod_requestAtHome_114 (by decide) ?_
  refine rx_iload_n C.1 (pc := 116) d_Mod_requestAtHome_116 rfl ?_
  refine rx_if_ne C.1 (pc := 117) d_Mod_requestAtHome_117 (tgt := 171) rfl (fun h6 => ?_) (fun h6 => ?_)
  ·
    refine rx_aload_n C.1 (pc := 171) d_Mod_requestAtHome_171 rfl ?_
    refine g_Mod_49 D b ca C (pc := 172) d_Mod_requestAtHome_172 ?_
    refine rx_iload_n C.1 (pc := 175) d_Mod_requestAtHome_175 rfl ?_
    refine rx_iald C (i := 85) (n := 2) (pc := 176) d_Mod_requestAtHome_176 (rx_lt (by decide)) rfl (by first | assumption | exact rx_in2 (by assumption) | exact rx_v02 | exact rx_v12 | exact vp_in_iff.mpr (by decide) | exact fa_in (by assumption) (by assumption) | exact fa_in (by assumption) rx_iM0 | exact fa_in (by assumption) rx_iM1) ?_
    refine rx_iload_n C.1 (pc := 177) d_Mod_requestAtHome_177 rfl ?_
    refine rx_aload_n C.1 (pc := 178) d_Mod_requestAtHome_178 rfl ?_
    refine g_Mod_13 D b ca C (pc := 179) d_Mod_requestAtHome_179 ?_
    refine rx_iconst C.1 (v := 5) (pc := 182) d_Mod_requestAtHome_182 (by decide) ?_
    refine rx_iald C (i := 73) (n := 9) (pc := 183) d_Mod_requestAtHome_183 (rx_lt (by decide)) rfl (by first | assumption | exact rx_in2 (by assumption) | exact rx_v02 | exact rx_v12 | exact vp_in_iff.mpr (by decide) | exact fa_in (by assumption) (by assumption) | exact fa_in (by assumption) rx_iM0 | exact fa_in (by assumption) rx_iM1) ?_
    refine rx_iload_n C.1 (pc := 184) d_Mod_requestAtHome_184 rfl ?_
    refine rx_iload C.1 (pc := 185) d_Mod_requestAtHome_185 rfl ?_
    refine rx_aload_n C.1 (pc := 187) d_Mod_requestAtHome_187 rfl ?_
    refine g_Mod_13 D b ca C (pc := 188) d_Mod_requestAtHome_188 ?_
    refine rx_iconst C.1 (v := 4) (pc := 191) d_Mod_requestAtHome_191 (by decide) ?_
    refine rx_iald C (i := 73) (n := 9) (pc := 192) d_Mod_requestAtHome_192 (rx_lt (by decide)) rfl (by first | assumption | exact rx_in2 (by assumption) | exact rx_v02 | exact rx_v12 | exact vp_in_iff.mpr (by decide) | exact fa_in (by assumption) (by assumption) | exact fa_in (by assumption) rx_iM0 | exact fa_in (by assumption) rx_iM1) ?_
    refine q_Mod_120 C.1 (pc := 193) d_Mod_requestAtHome_193 (c_Mod_replySeal l ) ⟨Nat.le_of_ble_eq_true rfl, Nat.le_of_ble_eq_true rfl⟩ ⟨Nat.zero_le _, Nat.zero_le _⟩ (Nat.le_of_ble_eq_true rfl) ?_
    refine rx_istore C.1 (pc := 196) d_Mod_requestAtHome_196 (by decide) ?_
    refine rx_aload_n C.1 (pc := 198) d_Mod_requestAtHome_198 rfl ?_
    refine rx_iconst C.1 (v := 3) (pc := 199) d_Mod_requestAtHome_199 (by decide) ?_
    refine rx_aload_n C.1 (pc := 200) d_Mod_requestAtHome_200 rfl ?_
    refine g_Mod_13 D b ca C (pc := 201) d_Mod_requestAtHome_201 ?_
    refine rx_iconst C.1 (v := 5) (pc := 204) d_Mod_requestAtHome_204 (by decide) ?_
    refine rx_iald C (i := 73) (n := 9) (pc := 205) d_Mod_requestAtHome_205 (rx_lt (by decide)) rfl (by first | assumption | exact rx_in2 (by assumption) | exact rx_v02 | exact rx_v12 | exact vp_in_iff.mpr (by decide) | exact fa_in (by assumption) (by assumption) | exact fa_in (by assumption) rx_iM0 | exact fa_in (by assumption) rx_iM1) ?_
    refine rx_cut1 (jpc := 219) (v := if (σ 73 (Int32.toNatClampNeg 5)) = 0 then 5 else (σ 73 (Int32.toNatClampNeg 5))) (fun hk => ?_) ?_
    ·
      refine rx_if_ne C.1 (pc := 206) d_Mod_requestAtHome_206 (tgt := 213) rfl (fun h7 => ?_) (fun h7 => ?_)
      ·
        refine rx_aload_n C.1 (pc := 213) d_Mod_requestAtHome_213 rfl ?_
        refine g_Mod_13 D b ca C (pc := 214) d_Mod_requestAtHome_214 ?_
        refine rx_iconst C.1 (v := 5) (pc := 217) d_Mod_requestAtHome_217 (by decide) ?_
        refine rx_iald C (i := 73) (n := 9) (pc := 218) d_Mod_requestAtHome_218 (rx_lt (by decide)) rfl (by first | assumption | exact rx_in2 (by assumption) | exact rx_v02 | exact rx_v12 | exact vp_in_iff.mpr (by decide) | exact fa_in (by assumption) (by assumption) | exact fa_in (by assumption) rx_iM0 | exact fa_in (by assumption) rx_iM1) ?_
        rw [if_neg h7] at hk
        exact hk
      ·
        refine rx_iconst C.1 (v := 5) (pc := 209) d_Mod_requestAtHome_209 (by decide) ?_
        refine rx_goto C.1 (pc := 210) d_Mod_requestAtHome_210 (tgt := 219) rfl ?_
        rw [if_pos h7] at hk
        exact hk
    refine rx_iload_n C.1 (pc := 219) d_Mod_requestAtHome_219 rfl ?_
    refine rx_iconst C.1 (v := 0) (pc := 220) d_Mod_requestAtHome_220 (by decide) ?_
    refine rx_aload_n C.1 (pc := 221) d_Mod_requestAtHome_221 rfl ?_
    refine g_Mod_13 D b ca C (pc := 222) d_Mod_requestAtHome_222 ?_
    refine rx_iconst C.1 (v := 4) (pc := 225) d_Mod_requestAtHome_225 (by decide) ?_
    refine rx_iald C (i := 73) (n := 9) (pc := 226) d_Mod_requestAtHome_226 (rx_lt (by decide)) rfl (by first | assumption | exact rx_in2 (by assumption) | exact rx_v02 | exact rx_v12 | exact vp_in_iff.mpr (by decide) | exact fa_in (by assumption) (by assumption) | exact fa_in (by assumption) rx_iM0 | exact fa_in (by assumption) rx_iM1) ?_
    refine rx_aload_n C.1 (pc := 227) d_Mod_requestAtHome_227 rfl ?_
    refine g_Mod_13 D b ca C (pc := 228) d_Mod_requestAtHome_228 ?_
    refine rx_iconst C.1 (v := 5) (pc := 231) d_Mod_requestAtHome_231 (by decide) ?_
    refine rx_iald C (i := 73) (n := 9) (pc := 232) d_Mod_requestAtHome_232 (rx_lt (by decide)) rfl (by first | assumption | exact rx_in2 (by assumption) | exact rx_v02 | exact rx_v12 | exact vp_in_iff.mpr (by decide) | exact fa_in (by assumption) (by assumption) | exact fa_in (by assumption) rx_iM0 | exact fa_in (by assumption) rx_iM1) ?_
    refine rx_iload C.1 (pc := 233) d_Mod_requestAtHome_233 rfl ?_
    refine rx_iload_n C.1 (pc := 235) d_Mod_requestAtHome_235 rfl ?_
    refine rx_iload C.1 (pc := 236) d_Mod_requestAtHome_236 rfl ?_
    refine q_Mod_109 D b ca C (pc := 238) d_Mod_requestAtHome_238 (c_Mod_send l D b ca ) ⟨Nat.le_of_ble_eq_true rfl, Nat.le_of_ble_eq_true rfl⟩ ⟨Nat.zero_le _, Nat.zero_le _⟩ (Nat.le_of_ble_eq_true rfl) ?_
    refine rx_nm (fun m1 e1 => ?_)
    exact rx_vret C (pc := 241) d_Mod_requestAtHome_241 (by subst e1; unfold sp_Mod_requestAtHome; first | (simp only [if_neg h6]; done) | (simp only [if_neg h6]; rfl))
  ·
    refine rx_aload_n C.1 (pc := 120) d_Mod_requestAtHome_120 rfl ?_
    refine g_Mod_52 D b ca C (pc := 121) d_Mod_requestAtHome_121 ?_
    refine rx_iload_n C.1 (pc := 124) d_Mod_requestAtHome_124 rfl ?_
    refine rx_aload_n C.1 (pc := 125) d_Mod_requestAtHome_125 rfl ?_
    refine g_Mod_13 D b ca C (pc := 126) d_Mod_requestAtHome_126 ?_
    refine rx_iconst C.1 (v := 4) (pc := 129) d_Mod_requestAtHome_129 (by decide) ?_
    refine rx_iald C (i := 73) (n := 9) (pc := 130) d_Mod_requestAtHome_130 (rx_lt (by decide)) rfl (by first | assumption | exact rx_in2 (by assumption) | exact rx_v02 | exact rx_v12 | exact vp_in_iff.mpr (by decide) | exact fa_in (by assumption) (by assumption) | exact fa_in (by assumption) rx_iM0 | exact fa_in (by assumption) rx_iM1) ?_
    refine rx_iast C (i := 86) (n := 2) (pc := 131) d_Mod_requestAtHome_131 (rx_lt (by decide)) (fun _ => rfl) (by first | assumption | exact rx_in2 (by assumption) | exact rx_v02 | exact rx_v12 | exact vp_in_iff.mpr (by decide) | exact fa_in (by assumption) (by assumption) | exact fa_in (by assumption) rx_iM0 | exact fa_in (by assumption) rx_iM1) (rx_SI_wr (by omega)) ?_
    refine rx_nm (fun m2 e2 => ?_)
    refine rx_aload_n C.1 (pc := 132) d_Mod_requestAtHome_132 rfl ?_
    refine g_Mod_55 D b ca C (pc := 133) d_Mod_requestAtHome_133 ?_
    refine rx_iload_n C.1 (pc := 136) d_Mod_requestAtHome_136 rfl ?_
    refine rx_aload_n C.1 (pc := 137) d_Mod_requestAtHome_137 rfl ?_
    refine g_Mod_13 D b ca C (pc := 138) d_Mod_requestAtHome_138 ?_
    refine rx_iconst C.1 (v := 5) (pc := 141) d_Mod_requestAtHome_141 (by decide) ?_
    refine rx_iald C (i := 73) (n := 9) (pc := 142) d_Mod_requestAtHome_142 (rx_lt (by decide)) rfl (by first | assumption | exact rx_in2 (by assumption) | exact rx_v02 | exact rx_v12 | exact vp_in_iff.mpr (by decide) | exact fa_in (by assumption) (by assumption) | exact fa_in (by assumption) rx_iM0 | exact fa_in (by assumption) rx_iM1) ?_
    refine rx_iast C (i := 87) (n := 2) (pc := 143) d_Mod_requestAtHome_143 (rx_lt (by decide)) (fun _ => rfl) (by first | assumption | exact rx_in2 (by assumption) | exact rx_v02 | exact rx_v12 | exact vp_in_iff.mpr (by decide) | exact fa_in (by assumption) (by assumption) | exact fa_in (by assumption) rx_iM0 | exact fa_in (by assumption) rx_iM1) (rx_SI_wr (by omega)) ?_
    refine rx_nm (fun m3 e3 => ?_)
    refine rx_aload_n C.1 (pc := 144) d_Mod_requestAtHome_144 rfl ?_
    refine g_Mod_58 D b ca C (pc := 145) d_Mod_requestAtHome_145 ?_
    refine rx_iload_n C.1 (pc := 148) d_Mod_requestAtHome_148 rfl ?_
    refine rx_aload_n C.1 (pc := 149) d_Mod_requestAtHome_149 rfl ?_
    refine g_Mod_13 D b ca C (pc := 150) d_Mod_requestAtHome_150 ?_
    refine rx_bipush C.1 (v := 6) (pc := 153) d_Mod_requestAtHome_153 (by decide) ?_
    refine rx_iald C (i := 73) (n := 9) (pc := 155) d_Mod_requestAtHome_155 (rx_lt (by decide)) rfl (by first | assumption | exact rx_in2 (by assumption) | exact rx_v02 | exact rx_v12 | exact vp_in_iff.mpr (by decide) | exact fa_in (by assumption) (by assumption) | exact fa_in (by assumption) rx_iM0 | exact fa_in (by assumption) rx_iM1) ?_
    refine rx_cut1 (jpc := 170) (v := if (m3 73 (Int32.toNatClampNeg 6)) = 0 then 0 else ((m3 71 3) + (if (if (if (σ 73 (Int32.toNatClampNeg 8)) = (rv_Mod_requestSeal (σ 85 m.toNatClampNeg) m (σ 73 (Int32.toNatClampNeg 5)) (σ 73 (Int32.toNatClampNeg 6)) (σ 73 (Int32.toNatClampNeg 4))) then 1 else 0 : Int32) = 0 then 131 else (if (σ 86 m.toNatClampNeg) < (σ 73 (Int32.toNatClampNeg 4)) then 0 else 133) : Int32) = 0 then (if (σ 71 1) ≤ (σ 73 (Int32.toNatClampNeg 6)) then (σ 71 1) else (σ 73 (Int32.toNatClampNeg 6))) else 0 : Int32))) (fun hk => ?_) ?_
    ·
      refine rx_if_ne C.1 (pc := 156) d_Mod_requestAtHome_156 (tgt := 163) rfl (fun h8 => ?_) (fun h8 => ?_)
      ·
        refine rx_aload_n C.1 (pc := 163) d_Mod_requestAtHome_163 rfl ?_
        refine g_Mod_113 D b ca C (pc := 164) d_Mod_requestAtHome_164 ?_
        refine rx_iload C.1 (pc := 167) d_Mod_requestAtHome_167 rfl ?_
        refine rx_iadd C.1 (pc := 169) d_Mod_requestAtHome_169 ?_
        rw [if_neg h8] at hk
        exact hk
      ·
        refine rx_iconst C.1 (v := 0) (pc := 159) d_Mod_requestAtHome_159 (by decide) ?_
        refine rx_goto C.1 (pc := 160) d_Mod_requestAtHome_160 (tgt := 170) rfl ?_
        rw [if_pos h8] at hk
        exact hk
    refine rx_iast C (i := 88) (n := 2) (pc := 170) d_Mod_requestAtHome_170 (rx_lt (by decide)) (fun _ => rfl) (by first | assumption | exact rx_in2 (by assumption) | exact rx_v02 | exact rx_v12 | exact vp_in_iff.mpr (by decide) | exact fa_in (by assumption) (by assumption) | exact fa_in (by assumption) rx_iM0 | exact fa_in (by assumption) rx_iM1) (rx_SI_wr (by omega)) ?_
    refine rx_nm (fun m4 e4 => ?_)
    refine rx_aload_n C.1 (pc := 171) d_Mod_requestAtHome_171 rfl ?_
    refine g_Mod_49 D b ca C (pc := 172) d_Mod_requestAtHome_172 ?_
    refine rx_iload_n C.1 (pc := 175) d_Mod_requestAtHome_175 rfl ?_
    refine rx_iald C (i := 85) (n := 2) (pc := 176) d_Mod_requestAtHome_176 (rx_lt (by decide)) rfl (by first | assumption | exact rx_in2 (by assumption) | exact rx_v02 | exact rx_v12 | exact vp_in_iff.mpr (by decide) | exact fa_in (by assumption) (by assumption) | exact fa_in (by assumption) rx_iM0 | exact fa_in (by assumption) rx_iM1) ?_
    refine rx_iload_n C.1 (pc := 177) d_Mod_requestAtHome_177 rfl ?_
    refine rx_aload_n C.1 (pc := 178) d_Mod_requestAtHome_178 rfl ?_
    refine g_Mod_13 D b ca C (pc := 179) d_Mod_requestAtHome_179 ?_
    refine rx_iconst C.1 (v := 5) (pc := 182) d_Mod_requestAtHome_182 (by decide) ?_
    refine rx_iald C (i := 73) (n := 9) (pc := 183) d_Mod_requestAtHome_183 (rx_lt (by decide)) rfl (by first | assumption | exact rx_in2 (by assumption) | exact rx_v02 | exact rx_v12 | exact vp_in_iff.mpr (by decide) | exact fa_in (by assumption) (by assumption) | exact fa_in (by assumption) rx_iM0 | exact fa_in (by assumption) rx_iM1) ?_
    refine rx_iload_n C.1 (pc := 184) d_Mod_requestAtHome_184 rfl ?_
    refine rx_iload C.1 (pc := 185) d_Mod_requestAtHome_185 rfl ?_
    refine rx_aload_n C.1 (pc := 187) d_Mod_requestAtHome_187 rfl ?_
    refine g_Mod_13 D b ca C (pc := 188) d_Mod_requestAtHome_188 ?_
    refine rx_iconst C.1 (v := 4) (pc := 191) d_Mod_requestAtHome_191 (by decide) ?_
    refine rx_iald C (i := 73) (n := 9) (pc := 192) d_Mod_requestAtHome_192 (rx_lt (by decide)) rfl (by first | assumption | exact rx_in2 (by assumption) | exact rx_v02 | exact rx_v12 | exact vp_in_iff.mpr (by decide) | exact fa_in (by assumption) (by assumption) | exact fa_in (by assumption) rx_iM0 | exact fa_in (by assumption) rx_iM1) ?_
    refine q_Mod_120 C.1 (pc := 193) d_Mod_requestAtHome_193 (c_Mod_replySeal l ) ⟨Nat.le_of_ble_eq_true rfl, Nat.le_of_ble_eq_true rfl⟩ ⟨Nat.zero_le _, Nat.zero_le _⟩ (Nat.le_of_ble_eq_true rfl) ?_
    refine rx_istore C.1 (pc := 196) d_Mod_requestAtHome_196 (by decide) ?_
    refine rx_aload_n C.1 (pc := 198) d_Mod_requestAtHome_198 rfl ?_
    refine rx_iconst C.1 (v := 3) (pc := 199) d_Mod_requestAtHome_199 (by decide) ?_
    refine rx_aload_n C.1 (pc := 200) d_Mod_requestAtHome_200 rfl ?_
    refine g_Mod_13 D b ca C (pc := 201) d_Mod_requestAtHome_201 ?_
    refine rx_iconst C.1 (v := 5) (pc := 204) d_Mod_requestAtHome_204 (by decide) ?_
    refine rx_iald C (i := 73) (n := 9) (pc := 205) d_Mod_requestAtHome_205 (rx_lt (by decide)) rfl (by first | assumption | exact rx_in2 (by assumption) | exact rx_v02 | exact rx_v12 | exact vp_in_iff.mpr (by decide) | exact fa_in (by assumption) (by assumption) | exact fa_in (by assumption) rx_iM0 | exact fa_in (by assumption) rx_iM1) ?_
    refine rx_cut1 (jpc := 219) (v := if (m4 73 (Int32.toNatClampNeg 5)) = 0 then 5 else (m4 73 (Int32.toNatClampNeg 5))) (fun hk => ?_) ?_
    ·
      refine rx_if_ne C.1 (pc := 206) d_Mod_requestAtHome_206 (tgt := 213) rfl (fun h9 => ?_) (fun h9 => ?_)
      ·
        refine rx_aload_n C.1 (pc := 213) d_Mod_requestAtHome_213 rfl ?_
        refine g_Mod_13 D b ca C (pc := 214) d_Mod_requestAtHome_214 ?_
        refine rx_iconst C.1 (v := 5) (pc := 217) d_Mod_requestAtHome_217 (by decide) ?_
        refine rx_iald C (i := 73) (n := 9) (pc := 218) d_Mod_requestAtHome_218 (rx_lt (by decide)) rfl (by first | assumption | exact rx_in2 (by assumption) | exact rx_v02 | exact rx_v12 | exact vp_in_iff.mpr (by decide) | exact fa_in (by assumption) (by assumption) | exact fa_in (by assumption) rx_iM0 | exact fa_in (by assumption) rx_iM1) ?_
        rw [if_neg h9] at hk
        exact hk
      ·
        refine rx_iconst C.1 (v := 5) (pc := 209) d_Mod_requestAtHome_209 (by decide) ?_
        refine rx_goto C.1 (pc := 210) d_Mod_requestAtHome_210 (tgt := 219) rfl ?_
        rw [if_pos h9] at hk
        exact hk
    refine rx_iload_n C.1 (pc := 219) d_Mod_requestAtHome_219 rfl ?_
    refine rx_iconst C.1 (v := 0) (pc := 220) d_Mod_requestAtHome_220 (by decide) ?_
    refine rx_aload_n C.1 (pc := 221) d_Mod_requestAtHome_221 rfl ?_
    refine g_Mod_13 D b ca C (pc := 222) d_Mod_requestAtHome_222 ?_
    refine rx_iconst C.1 (v := 4) (pc := 225) d_Mod_requestAtHome_225 (by decide) ?_
    refine rx_iald C (i := 73) (n := 9) (pc := 226) d_Mod_requestAtHome_226 (rx_lt (by decide)) rfl (by first | assumption | exact rx_in2 (by assumption) | exact rx_v02 | exact rx_v12 | exact vp_in_iff.mpr (by decide) | exact fa_in (by assumption) (by assumption) | exact fa_in (by assumption) rx_iM0 | exact fa_in (by assumption) rx_iM1) ?_
    refine rx_aload_n C.1 (pc := 227) d_Mod_requestAtHome_227 rfl ?_
    refine g_Mod_13 D b ca C (pc := 228) d_Mod_requestAtHome_228 ?_
    refine rx_iconst C.1 (v := 5) (pc := 231) d_Mod_requestAtHome_231 (by decide) ?_
    refine rx_iald C (i := 73) (n := 9) (pc := 232) d_Mod_requestAtHome_232 (rx_lt (by decide)) rfl (by first | assumption | exact rx_in2 (by assumption) | exact rx_v02 | exact rx_v12 | exact vp_in_iff.mpr (by decide) | exact fa_in (by assumption) (by assumption) | exact fa_in (by assumption) rx_iM0 | exact fa_in (by assumption) rx_iM1) ?_
    refine rx_iload C.1 (pc := 233) d_Mod_requestAtHome_233 rfl ?_
    refine rx_iload_n C.1 (pc := 235) d_Mod_requestAtHome_235 rfl ?_
    refine rx_iload C.1 (pc := 236) d_Mod_requestAtHome_236 rfl ?_
    refine q_Mod_109 D b ca C (pc := 238) d_Mod_requestAtHome_238 (c_Mod_send l D b ca ) ⟨Nat.le_of_ble_eq_true rfl, Nat.le_of_ble_eq_true rfl⟩ ⟨Nat.zero_le _, Nat.zero_le _⟩ (Nat.le_of_ble_eq_true rfl) ?_
    refine rx_nm (fun m5 e5 => ?_)
    exact rx_vret C (pc := 241) d_Mod_requestAtHome_241 (by subst e5 e4 e3 e2; unfold sp_Mod_requestAtHome; first | (simp only [if_pos h6]; done) | (simp only [if_pos h6]; rfl))

def sp_Mod_dataAtHome (σ : rMem) (m : Int32) : rMem := let m1 := sp_Mod_send σ (if (if (σ 88 m.toNatClampNeg) ≤ (σ 71 3) then 0 else 1 : Int32) = 0 then 4 else 5 : Int32) (if (if (σ 88 m.toNatClampNeg) ≤ (σ 71 3) then 0 else 1 : Int32) = 0 then 5 else (σ 87 m.toNatClampNeg) : Int32) m 0 (σ 73 (Int32.toNatClampNeg 4)) 0 0 0 0; m1
set_option maxHeartbeats 4000000 in
set_option maxRecDepth 100000 in
theorem c_Mod_dataAtHome (l : Launch) (D : va_G) (b : Nat) (ca : Nat → ClassId) {σ : rMem} {m : Int32} (hm : rx_iM m) : rx_C l (rx_fin D b ca) y_Mod_dataAtHome b_Mod_dataAtHome 3 none (rx_rm 1) [.ref (rg_A (rx_fin D b ca) 71), .int m] σ none (sp_Mod_dataAtHome σ m) := by
  refine rx_of (lo := [(0, .ref (rg_A (rx_fin D b ca) 71)), (1, .int m)]) (by decide) (rx_fin_D D b ca) rfl (Nat.le_of_ble_eq_true rfl) rfl ?_
  intro p e s mm below meth c C
  refine rx_aload_n C.1 (pc := 0) d_Mod_dataAtHome_0 rfl ?_
  refine g_Mod_113 D b ca C (pc := 1) d_Mod_dataAtHome_1 ?_
  refine rx_aload_n C.1 (pc := 4) d_Mod_dataAtHome_4 rfl ?_
  refine g_Mod_58 D b ca C (pc := 5) d_Mod_dataAtHome_5 ?_
  refine rx_iload_n C.1 (pc := 8) d_Mod_dataAtHome_8 rfl ?_
  refine rx_iald C (i := 88) (n := 2) (pc := 9) d_Mod_dataAtHome_9 (rx_lt (by decide)) rfl (by first | assumption | exact rx_in2 (by assumption) | exact rx_v02 | exact rx_v12 | exact vp_in_iff.mpr (by decide) | exact fa_in (by assumption) (by assumption) | exact fa_in (by assumption) rx_iM0 | exact fa_in (by assumption) rx_iM1) ?_
  refine rx_cut2 (jpc := 18) (v := if (σ 88 m.toNatClampNeg) ≤ (σ 71 3) then 0 else 1) (fun hk => ?_) ?_
  ·
    refine rx_icmp_ge C.1 (pc := 10) d_Mod_dataAtHome_10 (tgt := 17) rfl (fun h1 => ?_) (fun h1 => ?_)
    ·
      refine rx_iconst C.1 (v := 0) (pc := 17) d_Mod_dataAtHome_17 (by decide) ?_
      rw [if_pos h1] at hk
      exact hk
    ·
      refine rx_iconst C.1 (v := 1) (pc := 13) d_Mod_dataAtHome_13 (by decide) ?_
      refine rx_goto C.1 (pc := 14) d_Mod_dataAtHome_14 (tgt := 18) rfl ?_
      rw [if_neg h1] at hk
      exact hk
  refine rx_istore_n C.1 (pc := 18) d_Mod_dataAtHome_18 (by decide) ?_
  refine rx_aload_n C.1 (pc := 19) d_Mod_dataAtHome_19 rfl ?_
  refine rx_iload_n C.1 (pc := 20) d_Mod_dataAtHome_20 rfl ?_
  refine rx_cut1 (jpc := 29) (v := if (if (σ 88 m.toNatClampNeg) ≤ (σ 71 3) then 0 else 1 : Int32) = 0 then 4 else 5) (fun hk => ?_) ?_
  ·
    refine rx_if_eq C.1 (pc := 21) d_Mod_dataAtHome_21 (tgt := 28) rfl (fun h2 => ?_) (fun h2 => ?_)
    ·
      refine rx_iconst C.1 (v := 4) (pc := 28) d_Mod_dataAtHome_28 (by decide) ?_
      rw [if_pos h2] at hk
      exact hk
    ·
      refine rx_iconst C.1 (v := 5) (pc := 24) d_Mod_dataAtHome_24 (by decide) ?_
      refine rx_goto C.1 (pc := 25) d_Mod_dataAtHome_25 (tgt := 29) rfl ?_
      rw [if_neg h2] at hk
      exact hk
  refine rx_iload_n C.1 (pc := 29) d_Mod_dataAtHome_29 rfl ?_
  refine rx_cut1 (jpc := 43) (v := if (if (σ 88 m.toNatClampNeg) ≤ (σ 71 3) then 0 else 1 : Int32) = 0 then 5 else (σ 87 m.toNatClampNeg)) (fun hk => ?_) ?_
  ·
    refine rx_if_eq C.1 (pc := 30) d_Mod_dataAtHome_30 (tgt := 42) rfl (fun h3 => ?_) (fun h3 => ?_)
    ·
      refine rx_iconst C.1 (v := 5) (pc := 42) d_Mod_dataAtHome_42 (by decide) ?_
      rw [if_pos h3] at hk
      exact hk
    ·
      refine rx_aload_n C.1 (pc := 33) d_Mod_dataAtHome_33 rfl ?_
      refine g_Mod_55 D b ca C (pc := 34) d_Mod_dataAtHome_34 ?_
      refine rx_iload_n C.1 (pc := 37) d_Mod_dataAtHome_37 rfl ?_
      refine rx_iald C (i := 87) (n := 2) (pc := 38) d_Mod_dataAtHome_38 (rx_lt (by decide)) rfl (by first | assumption | exact rx_in2 (by assumption) | exact rx_v02 | exact rx_v12 | exact vp_in_iff.mpr (by decide) | exact fa_in (by assumption) (by assumption) | exact fa_in (by assumption) rx_iM0 | exact fa_in (by assumption) rx_iM1) ?_
      refine rx_goto C.1 (pc := 39) d_Mod_dataAtHome_39 (tgt := 43) rfl ?_
      rw [if_neg h3] at hk
      exact hk
  refine rx_iload_n C.1 (pc := 43) d_Mod_dataAtHome_43 rfl ?_
  refine rx_iconst C.1 (v := 0) (pc := 44) d_Mod_dataAtHome_44 (by decide) ?_
  refine rx_aload_n C.1 (pc := 45) d_Mod_dataAtHome_45 rfl ?_
  refine g_Mod_13 D b ca C (pc := 46) d_Mod_dataAtHome_46 ?_
  refine rx_iconst C.1 (v := 4) (pc := 49) d_Mod_dataAtHome_49 (by decide) ?_
  refine rx_iald C (i := 73) (n := 9) (pc := 50) d_Mod_dataAtHome_50 (rx_lt (by decide)) rfl (by first | assumption | exact rx_in2 (by assumption) | exact rx_v02 | exact rx_v12 | exact vp_in_iff.mpr (by decide) | exact fa_in (by assumption) (by assumption) | exact fa_in (by assumption) rx_iM0 | exact fa_in (by assumption) rx_iM1) ?_
  refine rx_iconst C.1 (v := 0) (pc := 51) d_Mod_dataAtHome_51 (by decide) ?_
  refine rx_iconst C.1 (v := 0) (pc := 52) d_Mod_dataAtHome_52 (by decide) ?_
  refine rx_iconst C.1 (v := 0) (pc := 53) d_Mod_dataAtHome_53 (by decide) ?_
  refine rx_iconst C.1 (v := 0) (pc := 54) d_Mod_dataAtHome_54 (by decide) ?_
  refine q_Mod_109 D b ca C (pc := 55) d_Mod_dataAtHome_55 (c_Mod_send l D b ca ) ⟨Nat.le_of_ble_eq_true rfl, Nat.le_of_ble_eq_true rfl⟩ ⟨Nat.zero_le _, Nat.zero_le _⟩ (Nat.le_of_ble_eq_true rfl) ?_
  refine rx_nm (fun m1 e1 => ?_)
  exact rx_vret C (pc := 58) d_Mod_dataAtHome_58 (by subst e1; unfold sp_Mod_dataAtHome; first | with_reducible rfl | (simp only []; done) | rfl)

def rv_Mod_takesPlace (σ : rMem) (a : Int32) (m : Int32) : Int32 := if (σ 71 3) < (σ 89 ((2 * a) + m).toNatClampNeg) then 1 else (if (σ 91 ((2 * a) + m).toNatClampNeg) ≤ (σ 71 3) then 0 else 1)
set_option maxHeartbeats 4000000 in
set_option maxRecDepth 100000 in
theorem c_Mod_takesPlace (l : Launch) (D : va_G) (b : Nat) (ca : Nat → ClassId) {σ : rMem} {a : Int32} {m : Int32} (ha : 1 ≤ a.toInt ∧ a.toInt ≤ 3) (hm : rx_iM m) : rx_C l (rx_fin D b ca) y_Mod_takesPlace b_Mod_takesPlace 3 (some .boolean) (rx_rm 0) [.ref (rg_A (rx_fin D b ca) 71), .int a, .int m] σ (some (.int (rv_Mod_takesPlace σ a m))) σ := by
  refine rx_of (lo := [(0, .ref (rg_A (rx_fin D b ca) 71)), (1, .int a), (2, .int m)]) (by decide) (rx_fin_D D b ca) rfl (Nat.le_of_ble_eq_true rfl) rfl ?_
  intro p e s mm below meth c C
  refine rx_aload_n C.1 (pc := 0) d_Mod_takesPlace_0 rfl ?_
  refine g_Mod_113 D b ca C (pc := 1) d_Mod_takesPlace_1 ?_
  refine rx_aload_n C.1 (pc := 4) d_Mod_takesPlace_4 rfl ?_
  refine g_Mod_61 D b ca C (pc := 5) d_Mod_takesPlace_5 ?_
  refine rx_iconst C.1 (v := 2) (pc := 8) d_Mod_takesPlace_8 (by decide) ?_
  refine rx_iload_n C.1 (pc := 9) d_Mod_takesPlace_9 rfl ?_
  refine rx_imul C.1 (pc := 10) d_Mod_takesPlace_10 ?_
  refine rx_iload_n C.1 (pc := 11) d_Mod_takesPlace_11 rfl ?_
  refine rx_iadd C.1 (pc := 12) d_Mod_takesPlace_12 ?_
  refine rx_iald C (i := 89) (n := 8) (pc := 13) d_Mod_takesPlace_13 (rx_lt (by decide)) rfl (by first | assumption | exact rx_in2 (by assumption) | exact rx_v02 | exact rx_v12 | exact vp_in_iff.mpr (by decide) | exact fa_in (by assumption) (by assumption) | exact fa_in (by assumption) rx_iM0 | exact fa_in (by assumption) rx_iM1) ?_
  refine rx_icmp_lt C.1 (pc := 14) d_Mod_takesPlace_14 (tgt := 34) rfl (fun h1 => ?_) (fun h1 => ?_)
  ·
    refine rx_iconst C.1 (v := 1) (pc := 34) d_Mod_takesPlace_34 (by decide) ?_
    refine rx_goto C.1 (pc := 35) d_Mod_takesPlace_35 (tgt := 39) rfl ?_
    exact rx_zret C (pc := 39) d_Mod_takesPlace_39 (Or.inr rfl) (by unfold rv_Mod_takesPlace; first | (simp only [if_pos h1]; done) | (simp only [if_pos h1]; rfl)) rfl
  ·
    refine rx_aload_n C.1 (pc := 17) d_Mod_takesPlace_17 rfl ?_
    refine g_Mod_113 D b ca C (pc := 18) d_Mod_takesPlace_18 ?_
    refine rx_aload_n C.1 (pc := 21) d_Mod_takesPlace_21 rfl ?_
    refine g_Mod_67 D b ca C (pc := 22) d_Mod_takesPlace_22 ?_
    refine rx_iconst C.1 (v := 2) (pc := 25) d_Mod_takesPlace_25 (by decide) ?_
    refine rx_iload_n C.1 (pc := 26) d_Mod_takesPlace_26 rfl ?_
    refine rx_imul C.1 (pc := 27) d_Mod_takesPlace_27 ?_
    refine rx_iload_n C.1 (pc := 28) d_Mod_takesPlace_28 rfl ?_
    refine rx_iadd C.1 (pc := 29) d_Mod_takesPlace_29 ?_
    refine rx_iald C (i := 91) (n := 8) (pc := 30) d_Mod_takesPlace_30 (rx_lt (by decide)) rfl (by first | assumption | exact rx_in2 (by assumption) | exact rx_v02 | exact rx_v12 | exact vp_in_iff.mpr (by decide) | exact fa_in (by assumption) (by assumption) | exact fa_in (by assumption) rx_iM0 | exact fa_in (by assumption) rx_iM1) ?_
    refine rx_icmp_ge C.1 (pc := 31) d_Mod_takesPlace_31 (tgt := 38) rfl (fun h2 => ?_) (fun h2 => ?_)
    ·
      refine rx_iconst C.1 (v := 0) (pc := 38) d_Mod_takesPlace_38 (by decide) ?_
      exact rx_zret C (pc := 39) d_Mod_takesPlace_39 (Or.inl rfl) (by unfold rv_Mod_takesPlace; first | (simp only [if_neg h1, if_pos h2]; done) | (simp only [if_neg h1, if_pos h2]; rfl)) rfl
    ·
      refine rx_iconst C.1 (v := 1) (pc := 34) d_Mod_takesPlace_34 (by decide) ?_
      refine rx_goto C.1 (pc := 35) d_Mod_takesPlace_35 (tgt := 39) rfl ?_
      exact rx_zret C (pc := 39) d_Mod_takesPlace_39 (Or.inr rfl) (by unfold rv_Mod_takesPlace; first | (simp only [if_neg h1, if_neg h2]; done) | (simp only [if_neg h1, if_neg h2]; rfl)) rfl

def sp_Mod_requestAtForeign (σ : rMem) (a : Int32) (m : Int32) : rMem := if (σ 73 (Int32.toNatClampNeg 5)) = a then (if (rv_Mod_takesPlace σ a m) = 0 then (if ((if (rv_Mod_takesPlace σ a 0) = 0 then 0 else 1 : Int32) + (if (rv_Mod_takesPlace σ a 1) = 0 then 0 else 1 : Int32)) < (σ 71 2) then (let m4 := rx_wr σ 90 ((2 * a) + m).toNatClampNeg (σ 73 (Int32.toNatClampNeg 4)); let m5 := rx_wr m4 91 ((2 * a) + m).toNatClampNeg ((m4 71 3) + 8); let m6 := sp_Mod_send m5 2 0 m 0 (m5 73 (Int32.toNatClampNeg 4)) (m5 73 (Int32.toNatClampNeg 5)) (m5 73 (Int32.toNatClampNeg 6)) 0 (m5 73 (Int32.toNatClampNeg 8)); m6) else (let m7 := sp_Mod_send σ 3 5 m a (σ 73 (Int32.toNatClampNeg 4)) a 0 66 0; m7)) else (let m1 := rx_wr σ 90 ((2 * a) + m).toNatClampNeg (σ 73 (Int32.toNatClampNeg 4)); let m2 := rx_wr m1 91 ((2 * a) + m).toNatClampNeg ((m1 71 3) + 8); let m3 := sp_Mod_send m2 2 0 m 0 (m2 73 (Int32.toNatClampNeg 4)) (m2 73 (Int32.toNatClampNeg 5)) (m2 73 (Int32.toNatClampNeg 6)) 0 (m2 73 (Int32.toNatClampNeg 8)); m3)) else σ
set_option maxHeartbeats 4000000 in
set_option maxRecDepth 100000 in
theorem c_Mod_requestAtForeign (l : Launch) (D : va_G) (b : Nat) (ca : Nat → ClassId) {σ : rMem} {a : Int32} {m : Int32} (ha : 1 ≤ a.toInt ∧ a.toInt ≤ 3) (hm : rx_iM m) : rx_C l (rx_fin D b ca) y_Mod_requestAtForeign b_Mod_requestAtForeign 4 none (rx_rm 1) [.ref (rg_A (rx_fin D b ca) 71), .int a, .int m] σ none (sp_Mod_requestAtForeign σ a m) := by
  refine rx_of (lo := [(0, .ref (rg_A (rx_fin D b ca) 71)), (1, .int a), (2, .int m)]) (by decide) (rx_fin_D D b ca) rfl (Nat.le_of_ble_eq_true rfl) rfl ?_
  intro p e s mm below meth c C
  refine rx_aload_n C.1 (pc := 0) d_Mod_requestAtForeign_0 rfl ?_
  refine g_Mod_13 D b ca C (pc := 1) d_Mod_requestAtForeign_1 ?_
  refine rx_iconst C.1 (v := 5) (pc := 4) d_Mod_requestAtForeign_4 (by decide) ?_
  refine rx_iald C (i := 73) (n := 9) (pc := 5) d_Mod_requestAtForeign_5 (rx_lt (by decide)) rfl (by first | assumption | exact rx_in2 (by assumption) | exact rx_v02 | exact rx_v12 | exact vp_in_iff.mpr (by decide) | exact fa_in (by assumption) (by assumption) | exact fa_in (by assumption) rx_iM0 | exact fa_in (by assumption) rx_iM1) ?_
  refine rx_iload_n C.1 (pc := 6) d_Mod_requestAtForeign_6 rfl ?_
  refine rx_icmp_eq C.1 (pc := 7) d_Mod_requestAtForeign_7 (tgt := 11) rfl (fun h1 => ?_) (fun h1 => ?_)
  ·
    refine rx_aload_n C.1 (pc := 11) d_Mod_requestAtForeign_11 rfl ?_
    refine rx_iload_n C.1 (pc := 12) d_Mod_requestAtForeign_12 rfl ?_
    refine rx_iconst C.1 (v := 0) (pc := 13) d_Mod_requestAtForeign_13 (by decide) ?_
    refine q_Mod_124 D b ca C (pc := 14) d_Mod_requestAtForeign_14 (c_Mod_takesPlace l D b ca (by first | assumption | exact rx_iM0 | exact rx_iM1 | (constructor <;> omega)) (by first | assumption | exact rx_iM0 | exact rx_iM1 | (constructor <;> omega))) ⟨Nat.le_of_ble_eq_true rfl, Nat.le_of_ble_eq_true rfl⟩ ⟨Nat.zero_le _, Nat.zero_le _⟩ (Nat.le_of_ble_eq_true rfl) ?_
    refine rx_cut1 (jpc := 25) (v := if (rv_Mod_takesPlace σ a 0) = 0 then 0 else 1) (fun hk => ?_) ?_
    ·
      refine rx_if_eq C.1 (pc := 17) d_Mod_requestAtForeign_17 (tgt := 24) rfl (fun h2 => ?_) (fun h2 => ?_)
      ·
        refine rx_iconst C.1 (v := 0) (pc := 24) d_Mod_requestAtForeign_24 (by decide) ?_
        rw [if_pos h2] at hk
        exact hk
      ·
        refine rx_iconst C.1 (v := 1) (pc := 20) d_Mod_requestAtForeign_20 (by decide) ?_
        refine rx_goto C.1 (pc := 21) d_Mod_requestAtForeign_21 (tgt := 25) rfl ?_
        rw [if_neg h2] at hk
        exact hk
    refine rx_aload_n C.1 (pc := 25) d_Mod_requestAtForeign_25 rfl ?_
    refine rx_iload_n C.1 (pc := 26) d_Mod_requestAtForeign_26 rfl ?_
    refine rx_iconst C.1 (v := 1) (pc := 27) d_Mod_requestAtForeign_27 (by decide) ?_
    refine q_Mod_124 D b ca C (pc := 28) d_Mod_requestAtForeign_28 (c_Mod_takesPlace l D b ca (by first | assumption | exact rx_iM0 | exact rx_iM1 | (constructor <;> omega)) (by first | assumption | exact rx_iM0 | exact rx_iM1 | (constructor <;> omega))) ⟨Nat.le_of_ble_eq_true rfl, Nat.le_of_ble_eq_true rfl⟩ ⟨Nat.zero_le _, Nat.zero_le _⟩ (Nat.le_of_ble_eq_true rfl) ?_
    refine rx_cut1 (jpc := 39) (v := if (rv_Mod_takesPlace σ a 1) = 0 then 0 else 1) (fun hk => ?_) ?_
    ·
      refine rx_if_eq C.1 (pc := 31) d_Mod_requestAtForeign_31 (tgt := 38) rfl (fun h3 => ?_) (fun h3 => ?_)
      ·
        refine rx_iconst C.1 (v := 0) (pc := 38) d_Mod_requestAtForeign_38 (by decide) ?_
        rw [if_pos h3] at hk
        exact hk
      ·
        refine rx_iconst C.1 (v := 1) (pc := 34) d_Mod_requestAtForeign_34 (by decide) ?_
        refine rx_goto C.1 (pc := 35) d_Mod_requestAtForeign_35 (tgt := 39) rfl ?_
        rw [if_neg h3] at hk
        exact hk
    refine rx_iadd C.1 (pc := 39) d_Mod_requestAtForeign_39 ?_
    refine rx_istore_n C.1 (pc := 40) d_Mod_requestAtForeign_40 (by decide) ?_
    refine rx_aload_n C.1 (pc := 41) d_Mod_requestAtForeign_41 rfl ?_
    refine rx_iload_n C.1 (pc := 42) d_Mod_requestAtForeign_42 rfl ?_
    refine rx_iload_n C.1 (pc := 43) d_Mod_requestAtForeign_43 rfl ?_
    refine q_Mod_124 D b ca C (pc := 44) d_Mod_requestAtForeign_44 (c_Mod_takesPlace l D b ca (by first | assumption | exact rx_iM0 | exact rx_iM1 | (constructor <;> omega)) (by first | assumption | exact rx_iM0 | exact rx_iM1 | (constructor <;> omega))) ⟨Nat.le_of_ble_eq_true rfl, Nat.le_of_ble_eq_true rfl⟩ ⟨Nat.zero_le _, Nat.zero_le _⟩ (Nat.le_of_ble_eq_true rfl) ?_
    refine rx_if_ne C.1 (pc := 47) d_Mod_requestAtForeign_47 (tgt := 78) rfl (fun h4 => ?_) (fun h4 => ?_)
    ·
      refine rx_aload_n C.1 (pc := 78) d_Mod_requestAtForeign_78 rfl ?_
      refine g_Mod_64 D b ca C (pc := 79) d_Mod_requestAtForeign_79 ?_
      refine rx_iconst C.1 (v := 2) (pc := 82) d_Mod_requestAtForeign_82 (by decide) ?_
      refine rx_iload_n C.1 (pc := 83) d_Mod_requestAtForeign_83 rfl ?_
      refine rx_imul C.1 (pc := 84) d_Mod_requestAtForeign_84 ?_
      refine rx_iload_n C.1 (pc := 85) d_Mod_requestAtForeign_85 rfl ?_
      refine rx_iadd C.1 (pc := 86) d_Mod_requestAtForeign_86 ?_
      refine rx_aload_n C.1 (pc := 87) d_Mod_requestAtForeign_87 rfl ?_
      refine g_Mod_13 D b ca C (pc := 88) d_Mod_requestAtForeign_88 ?_
      refine rx_iconst C.1 (v := 4) (pc := 91) d_Mod_requestAtForeign_91 (by decide) ?_
      refine rx_iald C (i := 73) (n := 9) (pc := 92) d_Mod_requestAtForeign_92 (rx_lt (by decide)) rfl (by first | assumption | exact rx_in2 (by assumption) | exact rx_v02 | exact rx_v12 | exact vp_in_iff.mpr (by decide) | exact fa_in (by assumption) (by assumption) | exact fa_in (by assumption) rx_iM0 | exact fa_in (by assumption) rx_iM1) ?_
      refine rx_iast C (i := 90) (n := 8) (pc := 93) d_Mod_requestAtForeign_93 (rx_lt (by decide)) (fun _ => rfl) (by first | assumption | exact rx_in2 (by assumption) | exact rx_v02 | exact rx_v12 | exact vp_in_iff.mpr (by decide) | exact fa_in (by assumption) (by assumption) | exact fa_in (by assumption) rx_iM0 | exact fa_in (by assumption) rx_iM1) (rx_SI_wr (by omega)) ?_
      refine rx_nm (fun m1 e1 => ?_)
      refine rx_aload_n C.1 (pc := 94) d_Mod_requestAtForeign_94 rfl ?_
      refine g_Mod_67 D b ca C (pc := 95) d_Mod_requestAtForeign_95 ?_
      refine rx_iconst C.1 (v := 2) (pc := 98) d_Mod_requestAtForeign_98 (by decide) ?_
      refine rx_iload_n C.1 (pc := 99) d_Mod_requestAtForeign_99 rfl ?_
      refine rx_imul C.1 (pc := 100) d_Mod_requestAtForeign_100 ?_
      refine rx_iload_n C.1 (pc := 101) d_Mod_requestAtForeign_101 rfl ?_
      refine rx_iadd C.1 (pc := 102) d_Mod_requestAtForeign_102 ?_
      refine rx_aload_n C.1 (pc := 103) d_Mod_requestAtForeign_103 rfl ?_
      refine g_Mod_113 D b ca C (pc := 104) d_Mod_requestAtForeign_104 ?_
      refine rx_bipush C.1 (v := 8) (pc := 107) d_Mod_requestAtForeign_107 (by decide) ?_
      refine rx_iadd C.1 (pc := 109) d_Mod_requestAtForeign_109 ?_
      refine rx_iast C (i := 91) (n := 8) (pc := 110) d_Mod_requestAtForeign_110 (rx_lt (by decide)) (fun _ => rfl) (by first | assumption | exact rx_in2 (by assumption) | exact rx_v02 | exact rx_v12 | exact vp_in_iff.mpr (by decide) | exact fa_in (by assumption) (by assumption) | exact fa_in (by assumption) rx_iM0 | exact fa_in (by assumption) rx_iM1) (rx_SI_wr (by omega)) ?_
      refine rx_nm (fun m2 e2 => ?_)
      refine rx_aload_n C.1 (pc := 111) d_Mod_requestAtForeign_111 rfl ?_
      refine rx_iconst C.1 (v := 2) (pc := 112) d_Mod_requestAtForeign_112 (by decide) ?_
      refine rx_iconst C.1 (v := 0) (pc := 113) d_Mod_requestAtForeign_113 (by decide) ?_
      refine rx_iload_n C.1 (pc := 114) d_Mod_requestAtForeign_114 rfl ?_
      refine rx_iconst C.1 (v := 0) (pc := 115) d_Mod_requestAtForeign_115 (by decide) ?_
      refine rx_aload_n C.1 (pc := 116) d_Mod_requestAtForeign_116 rfl ?_
      refine g_Mod_13 D b ca C (pc := 117) d_Mod_requestAtForeign_117 ?_
      refine rx_iconst C.1 (v := 4) (pc := 120) d_Mod_requestAtForeign_120 (by decide) ?_
      refine rx_iald C (i := 73) (n := 9) (pc := 121) d_Mod_requestAtForeign_121 (rx_lt (by decide)) rfl (by first | assumption | exact rx_in2 (by assumption) | exact rx_v02 | exact rx_v12 | exact vp_in_iff.mpr (by decide) | exact fa_in (by assumption) (by assumption) | exact fa_in (by assumption) rx_iM0 | exact fa_in (by assumption) rx_iM1) ?_
      refine rx_aload_n C.1 (pc := 122) d_Mod_requestAtForeign_122 rfl ?_
      refine g_Mod_13 D b ca C (pc := 123) d_Mod_requestAtForeign_123 ?_
      refine rx_iconst C.1 (v := 5) (pc := 126) d_Mod_requestAtForeign_126 (by decide) ?_
      refine rx_iald C (i := 73) (n := 9) (pc := 127) d_Mod_requestAtForeign_127 (rx_lt (by decide)) rfl (by first | assumption | exact rx_in2 (by assumption) | exact rx_v02 | exact rx_v12 | exact vp_in_iff.mpr (by decide) | exact fa_in (by assumption) (by assumption) | exact fa_in (by assumption) rx_iM0 | exact fa_in (by assumption) rx_iM1) ?_
      refine rx_aload_n C.1 (pc := 128) d_Mod_requestAtForeign_128 rfl ?_
      refine g_Mod_13 D b ca C (pc := 129) d_Mod_requestAtForeign_129 ?_
      refine rx_bipush C.1 (v := 6) (pc := 132) d_Mod_requestAtForeign_132 (by decide) ?_
      refine rx_iald C (i := 73) (n := 9) (pc := 134) d_Mod_requestAtForeign_134 (rx_lt (by decide)) rfl (by first | assumption | exact rx_in2 (by assumption) | exact rx_v02 | exact rx_v12 | exact vp_in_iff.mpr (by decide) | exact fa_in (by assumption) (by assumption) | exact fa_in (by assumption) rx_iM0 | exact fa_in (by assumption) rx_iM1) ?_
      refine rx_iconst C.1 (v := 0) (pc := 135) d_Mod_requestAtForeign_135 (by decide) ?_
      refine rx_aload_n C.1 (pc := 136) d_Mod_requestAtForeign_136 rfl ?_
      refine g_Mod_13 D b ca C (pc := 137) d_Mod_requestAtForeign_137 ?_
      refine rx_bipush C.1 (v := 8) (pc := 140) d_Mod_requestAtForeign_140 (by decide) ?_
      refine rx_iald C (i := 73) (n := 9) (pc := 142) d_Mod_requestAtForeign_142 (rx_lt (by decide)) rfl (by first | assumption | exact rx_in2 (by assumption) | exact rx_v02 | exact rx_v12 | exact vp_in_iff.mpr (by decide) | exact fa_in (by assumption) (by assumption) | exact fa_in (by assumption) rx_iM0 | exact fa_in (by assumption) rx_iM1) ?_
      refine q_Mod_109 D b ca C (pc := 143) d_Mod_requestAtForeign_143 (c_Mod_send l D b ca ) ⟨Nat.le_of_ble_eq_true rfl, Nat.le_of_ble_eq_true rfl⟩ ⟨Nat.zero_le _, Nat.zero_le _⟩ (Nat.le_of_ble_eq_true rfl) ?_
      refine rx_nm (fun m3 e3 => ?_)
      exact rx_vret C (pc := 146) d_Mod_requestAtForeign_146 (by subst e3 e2 e1; unfold sp_Mod_requestAtForeign; first | (simp only [if_pos h1, if_neg h4]; done) | (simp only [if_pos h1, if_neg h4]; rfl))
    ·
      refine rx_iload_n C.1 (pc := 50) d_Mod_requestAtForeign_50 rfl ?_
      refine rx_aload_n C.1 (pc := 51) d_Mod_requestAtForeign_51 rfl ?_
      refine g_Mod_89 D b ca C (pc := 52) d_Mod_requestAtForeign_52 ?_
      refine rx_icmp_lt C.1 (pc := 55) d_Mod_requestAtForeign_55 (tgt := 78) rfl (fun h5 => ?_) (fun h5 => ?_)
      ·
        refine rx_aload_n C.1 (pc := 78) d_Mod_requestAtForeign_78 rfl ?_
        refine g_Mod_64 D b ca C (pc := 79) d_Mod_requestAtForeign_79 ?_
        refine rx_iconst C.1 (v := 2) (pc := 82) d_Mod_requestAtForeign_82 (by decide) ?_
        refine rx_iload_n C.1 (pc := 83) d_Mod_requestAtForeign_83 rfl ?_
        refine rx_imul C.1 (pc := 84) d_Mod_requestAtForeign_84 ?_
        refine rx_iload_n C.1 (pc := 85) d_Mod_requestAtForeign_85 rfl ?_
        refine rx_iadd C.1 (pc := 86) d_Mod_requestAtForeign_86 ?_
        refine rx_aload_n C.1 (pc := 87) d_Mod_requestAtForeign_87 rfl ?_
        refine g_Mod_13 D b ca C (pc := 88) d_Mod_requestAtForeign_88 ?_
        refine rx_iconst C.1 (v := 4) (pc := 91) d_Mod_requestAtForeign_91 (by decide) ?_
        refine rx_iald C (i := 73) (n := 9) (pc := 92) d_Mod_requestAtForeign_92 (rx_lt (by decide)) rfl (by first | assumption | exact rx_in2 (by assumption) | exact rx_v02 | exact rx_v12 | exact vp_in_iff.mpr (by decide) | exact fa_in (by assumption) (by assumption) | exact fa_in (by assumption) rx_iM0 | exact fa_in (by assumption) rx_iM1) ?_
        refine rx_iast C (i := 90) (n := 8) (pc := 93) d_Mod_requestAtForeign_93 (rx_lt (by decide)) (fun _ => rfl) (by first | assumption | exact rx_in2 (by assumption) | exact rx_v02 | exact rx_v12 | exact vp_in_iff.mpr (by decide) | exact fa_in (by assumption) (by assumption) | exact fa_in (by assumption) rx_iM0 | exact fa_in (by assumption) rx_iM1) (rx_SI_wr (by omega)) ?_
        refine rx_nm (fun m4 e4 => ?_)
        refine rx_aload_n C.1 (pc := 94) d_Mod_requestAtForeign_94 rfl ?_
        refine g_Mod_67 D b ca C (pc := 95) d_Mod_requestAtForeign_95 ?_
        refine rx_iconst C.1 (v := 2) (pc := 98) d_Mod_requestAtForeign_98 (by decide) ?_
        refine rx_iload_n C.1 (pc := 99) d_Mod_requestAtForeign_99 rfl ?_
        refine rx_imul C.1 (pc := 100) d_Mod_requestAtForeign_100 ?_
        refine rx_iload_n C.1 (pc := 101) d_Mod_requestAtForeign_101 rfl ?_
        refine rx_iadd C.1 (pc := 102) d_Mod_requestAtForeign_102 ?_
        refine rx_aload_n C.1 (pc := 103) d_Mod_requestAtForeign_103 rfl ?_
        refine g_Mod_113 D b ca C (pc := 104) d_Mod_requestAtForeign_104 ?_
        refine rx_bipush C.1 (v := 8) (pc := 107) d_Mod_requestAtForeign_107 (by decide) ?_
        refine rx_iadd C.1 (pc := 109) d_Mod_requestAtForeign_109 ?_
        refine rx_iast C (i := 91) (n := 8) (pc := 110) d_Mod_requestAtForeign_110 (rx_lt (by decide)) (fun _ => rfl) (by first | assumption | exact rx_in2 (by assumption) | exact rx_v02 | exact rx_v12 | exact vp_in_iff.mpr (by decide) | exact fa_in (by assumption) (by assumption) | exact fa_in (by assumption) rx_iM0 | exact fa_in (by assumption) rx_iM1) (rx_SI_wr (by omega)) ?_
        refine rx_nm (fun m5 e5 => ?_)
        refine rx_aload_n C.1 (pc := 111) d_Mod_requestAtForeign_111 rfl ?_
        refine rx_iconst C.1 (v := 2) (pc := 112) d_Mod_requestAtForeign_112 (by decide) ?_
        refine rx_iconst C.1 (v := 0) (pc := 113) d_Mod_requestAtForeign_113 (by decide) ?_
        refine rx_iload_n C.1 (pc := 114) d_Mod_requestAtForeign_114 rfl ?_
        refine rx_iconst C.1 (v := 0) (pc := 115) d_Mod_requestAtForeign_115 (by decide) ?_
        refine rx_aload_n C.1 (pc := 116) d_Mod_requestAtForeign_116 rfl ?_
        refine g_Mod_13 D b ca C (pc := 117) d_Mod_requestAtForeign_117 ?_
        refine rx_iconst C.1 (v := 4) (pc := 120) d_Mod_requestAtForeign_120 (by decide) ?_
        refine rx_iald C (i := 73) (n := 9) (pc := 121) d_Mod_requestAtForeign_121 (rx_lt (by decide)) rfl (by first | assumption | exact rx_in2 (by assumption) | exact rx_v02 | exact rx_v12 | exact vp_in_iff.mpr (by decide) | exact fa_in (by assumption) (by assumption) | exact fa_in (by assumption) rx_iM0 | exact fa_in (by assumption) rx_iM1) ?_
        refine rx_aload_n C.1 (pc := 122) d_Mod_requestAtForeign_122 rfl ?_
        refine g_Mod_13 D b ca C (pc := 123) d_Mod_requestAtForeign_123 ?_
        refine rx_iconst C.1 (v := 5) (pc := 126) d_Mod_requestAtForeign_126 (by decide) ?_
        refine rx_iald C (i := 73) (n := 9) (pc := 127) d_Mod_requestAtForeign_127 (rx_lt (by decide)) rfl (by first | assumption | exact rx_in2 (by assumption) | exact rx_v02 | exact rx_v12 | exact vp_in_iff.mpr (by decide) | exact fa_in (by assumption) (by assumption) | exact fa_in (by assumption) rx_iM0 | exact fa_in (by assumption) rx_iM1) ?_
        refine rx_aload_n C.1 (pc := 128) d_Mod_requestAtForeign_128 rfl ?_
        refine g_Mod_13 D b ca C (pc := 129) d_Mod_requestAtForeign_129 ?_
        refine rx_bipush C.1 (v := 6) (pc := 132) d_Mod_requestAtForeign_132 (by decide) ?_
        refine rx_iald C (i := 73) (n := 9) (pc := 134) d_Mod_requestAtForeign_134 (rx_lt (by decide)) rfl (by first | assumption | exact rx_in2 (by assumption) | exact rx_v02 | exact rx_v12 | exact vp_in_iff.mpr (by decide) | exact fa_in (by assumption) (by assumption) | exact fa_in (by assumption) rx_iM0 | exact fa_in (by assumption) rx_iM1) ?_
        refine rx_iconst C.1 (v := 0) (pc := 135) d_Mod_requestAtForeign_135 (by decide) ?_
        refine rx_aload_n C.1 (pc := 136) d_Mod_requestAtForeign_136 rfl ?_
        refine g_Mod_13 D b ca C (pc := 137) d_Mod_requestAtForeign_137 ?_
        refine rx_bipush C.1 (v := 8) (pc := 140) d_Mod_requestAtForeign_140 (by decide) ?_
        refine rx_iald C (i := 73) (n := 9) (pc := 142) d_Mod_requestAtForeign_142 (rx_lt (by decide)) rfl (by first | assumption | exact rx_in2 (by assumption) | exact rx_v02 | exact rx_v12 | exact vp_in_iff.mpr (by decide) | exact fa_in (by assumption) (by assumption) | exact fa_in (by assumption) rx_iM0 | exact fa_in (by assumption) rx_iM1) ?_
        refine q_Mod_109 D b ca C (pc := 143) d_Mod_requestAtForeign_143 (c_Mod_send l D b ca ) ⟨Nat.le_of_ble_eq_true rfl, Nat.le_of_ble_eq_true rfl⟩ ⟨Nat.zero_le _, Nat.zero_le _⟩ (Nat.le_of_ble_eq_true rfl) ?_
        refine rx_nm (fun m6 e6 => ?_)
        exact rx_vret C (pc := 146) d_Mod_requestAtForeign_146 (by subst e6 e5 e4; unfold sp_Mod_requestAtForeign; first | (simp only [if_pos h1, if_pos h4, if_pos h5]; done) | (simp only [if_pos h1, if_pos h4, if_pos h5]; rfl))
      ·
        refine rx_aload_n C.1 (pc := 58) d_Mod_requestAtForeign_58 rfl ?_
        refine rx_iconst C.1 (v := 3) (pc := 59) d_Mod_requestAtForeign_59 (by decide) ?_
        refine rx_iconst C.1 (v := 5) (pc := 60) d_Mod_requestAtForeign_60 (by decide) ?_
        refine rx_iload_n C.1 (pc := 61) d_Mod_requestAtForeign_61 rfl ?_
        refine rx_iload_n C.1 (pc := 62) d_Mod_requestAtForeign_62 rfl ?_
        refine rx_aload_n C.1 (pc := 63) d_Mod_requestAtForeign_63 rfl ?_
        refine g_Mod_13 D b ca C (pc := 64) d_Mod_requestAtForeign_64 ?_
        refine rx_iconst C.1 (v := 4) (pc := 67) d_Mod_requestAtForeign_67 (by decide) ?_
        refine rx_iald C (i := 73) (n := 9) (pc := 68) d_Mod_requestAtForeign_68 (rx_lt (by decide)) rfl (by first | assumption | exact rx_in2 (by assumption) | exact rx_v02 | exact rx_v12 | exact vp_in_iff.mpr (by decide) | exact fa_in (by assumption) (by assumption) | exact fa_in (by assumption) rx_iM0 | exact fa_in (by assumption) rx_iM1) ?_
        refine rx_iload_n C.1 (pc := 69) d_Mod_requestAtForeign_69 rfl ?_
        refine rx_iconst C.1 (v := 0) (pc := 70) d_Mod_requestAtForeign_70 (by decide) ?_
        refine rx_bipush C.1 (v := 66) (pc := 71) d_Mod_requestAtForeign_71 (by decide) ?_
        refine rx_iconst C.1 (v := 0) (pc := 73) d_Mod_requestAtForeign_73 (by decide) ?_
        refine q_Mod_109 D b ca C (pc := 74) d_Mod_requestAtForeign_74 (c_Mod_send l D b ca ) ⟨Nat.le_of_ble_eq_true rfl, Nat.le_of_ble_eq_true rfl⟩ ⟨Nat.zero_le _, Nat.zero_le _⟩ (Nat.le_of_ble_eq_true rfl) ?_
        refine rx_nm (fun m7 e7 => ?_)
        exact rx_vret C (pc := 77) d_Mod_requestAtForeign_77 (by subst e7; unfold sp_Mod_requestAtForeign; first | (simp only [if_pos h1, if_pos h4, if_neg h5]; done) | (simp only [if_pos h1, if_pos h4, if_neg h5]; rfl))
  ·
    exact rx_vret C (pc := 10) d_Mod_requestAtForeign_10 (by unfold sp_Mod_requestAtForeign; first | (simp only [if_neg h1]; done) | (simp only [if_neg h1]; rfl))

def sp_Mod_replyAtForeign (σ : rMem) (a : Int32) (m : Int32) : rMem := if (σ 91 ((2 * a) + m).toNatClampNeg) ≤ (σ 71 3) then σ else (if (σ 90 ((2 * a) + m).toNatClampNeg) = (σ 73 (Int32.toNatClampNeg 4)) then (let m1 := rx_wr σ 91 ((2 * a) + m).toNatClampNeg 0; let m2 := rx_wr m1 89 ((2 * a) + m).toNatClampNeg (if (m1 73 (Int32.toNatClampNeg 7)) = 0 then ((m1 71 3) + (m1 73 (Int32.toNatClampNeg 6))) else (m1 89 ((2 * a) + m).toNatClampNeg) : Int32); let m3 := sp_Mod_send m2 3 5 m a (m2 73 (Int32.toNatClampNeg 4)) (m2 73 (Int32.toNatClampNeg 5)) (m2 73 (Int32.toNatClampNeg 6)) (m2 73 (Int32.toNatClampNeg 7)) (m2 73 (Int32.toNatClampNeg 8)); m3) else σ)
set_option maxHeartbeats 4000000 in
set_option maxRecDepth 100000 in
theorem c_Mod_replyAtForeign (l : Launch) (D : va_G) (b : Nat) (ca : Nat → ClassId) {σ : rMem} {a : Int32} {m : Int32} (ha : 1 ≤ a.toInt ∧ a.toInt ≤ 3) (hm : rx_iM m) : rx_C l (rx_fin D b ca) y_Mod_replyAtForeign b_Mod_replyAtForeign 4 none (rx_rm 1) [.ref (rg_A (rx_fin D b ca) 71), .int a, .int m] σ none (sp_Mod_replyAtForeign σ a m) := by
  refine rx_of (lo := [(0, .ref (rg_A (rx_fin D b ca) 71)), (1, .int a), (2, .int m)]) (by decide) (rx_fin_D D b ca) rfl (Nat.le_of_ble_eq_true rfl) rfl ?_
  intro p e s mm below meth c C
  refine rx_iconst C.1 (v := 2) (pc := 0) d_Mod_replyAtForeign_0 (by decide) ?_
  refine rx_iload_n C.1 (pc := 1) d_Mod_replyAtForeign_1 rfl ?_
  refine rx_imul C.1 (pc := 2) d_Mod_replyAtForeign_2 ?_
  refine rx_iload_n C.1 (pc := 3) d_Mod_replyAtForeign_3 rfl ?_
  refine rx_iadd C.1 (pc := 4) d_Mod_replyAtForeign_4 ?_
  refine rx_istore_n C.1 (pc := 5) d_Mod_replyAtForeign_5 (by decide) ?_
  refine rx_aload_n C.1 (pc := 6) d_Mod_replyAtForeign_6 rfl ?_
  refine g_Mod_113 D b ca C (pc := 7) d_Mod_replyAtForeign_7 ?_
  refine rx_aload_n C.1 (pc := 10) d_Mod_replyAtForeign_10 rfl ?_
  refine g_Mod_67 D b ca C (pc := 11) d_Mod_replyAtForeign_11 ?_
  refine rx_iload_n C.1 (pc := 14) d_Mod_replyAtForeign_14 rfl ?_
  refine rx_iald C (i := 91) (n := 8) (pc := 15) d_Mod_replyAtForeign_15 (rx_lt (by decide)) rfl (by first | assumption | exact rx_in2 (by assumption) | exact rx_v02 | exact rx_v12 | exact vp_in_iff.mpr (by decide) | exact fa_in (by assumption) (by assumption) | exact fa_in (by assumption) rx_iM0 | exact fa_in (by assumption) rx_iM1) ?_
  refine rx_icmp_ge C.1 (pc := 16) d_Mod_replyAtForeign_16 (tgt := 34) rfl (fun h1 => ?_) (fun h1 => ?_)
  ·
    exact rx_vret C (pc := 34) d_Mod_replyAtForeign_34 (by unfold sp_Mod_replyAtForeign; first | (simp only [if_pos h1]; done) | (simp only [if_pos h1]; rfl))
  ·
    refine rx_aload_n C.1 (pc := 19) d_Mod_replyAtForeign_19 rfl ?_
    refine g_Mod_64 D b ca C (pc := 20) d_Mod_replyAtForeign_20 ?_
    refine rx_iload_n C.1 (pc := 23) d_Mod_replyAtForeign_23 rfl ?_
    refine rx_iald C (i := 90) (n := 8) (pc := 24) d_Mod_replyAtForeign_24 (rx_lt (by decide)) rfl (by first | assumption | exact rx_in2 (by assumption) | exact rx_v02 | exact rx_v12 | exact vp_in_iff.mpr (by decide) | exact fa_in (by assumption) (by assumption) | exact fa_in (by assumption) rx_iM0 | exact fa_in (by assumption) rx_iM1) ?_
    refine rx_aload_n C.1 (pc := 25) d_Mod_replyAtForeign_25 rfl ?_
    refine g_Mod_13 D b ca C (pc := 26) d_Mod_replyAtForeign_26 ?_
    refine rx_iconst C.1 (v := 4) (pc := 29) d_Mod_replyAtForeign_29 (by decide) ?_
    refine rx_iald C (i := 73) (n := 9) (pc := 30) d_Mod_replyAtForeign_30 (rx_lt (by decide)) rfl (by first | assumption | exact rx_in2 (by assumption) | exact rx_v02 | exact rx_v12 | exact vp_in_iff.mpr (by decide) | exact fa_in (by assumption) (by assumption) | exact fa_in (by assumption) rx_iM0 | exact fa_in (by assumption) rx_iM1) ?_
    refine rx_icmp_eq C.1 (pc := 31) d_Mod_replyAtForeign_31 (tgt := 35) rfl (fun h2 => ?_) (fun h2 => ?_)
    ·
      refine rx_aload_n C.1 (pc := 35) d_Mod_replyAtForeign_35 rfl ?_
      refine g_Mod_67 D b ca C (pc := 36) d_Mod_replyAtForeign_36 ?_
      refine rx_iload_n C.1 (pc := 39) d_Mod_replyAtForeign_39 rfl ?_
      refine rx_iconst C.1 (v := 0) (pc := 40) d_Mod_replyAtForeign_40 (by decide) ?_
      refine rx_iast C (i := 91) (n := 8) (pc := 41) d_Mod_replyAtForeign_41 (rx_lt (by decide)) (fun _ => rfl) (by first | assumption | exact rx_in2 (by assumption) | exact rx_v02 | exact rx_v12 | exact vp_in_iff.mpr (by decide) | exact fa_in (by assumption) (by assumption) | exact fa_in (by assumption) rx_iM0 | exact fa_in (by assumption) rx_iM1) (rx_SI_wr (by omega)) ?_
      refine rx_nm (fun m1 e1 => ?_)
      refine rx_aload_n C.1 (pc := 42) d_Mod_replyAtForeign_42 rfl ?_
      refine g_Mod_61 D b ca C (pc := 43) d_Mod_replyAtForeign_43 ?_
      refine rx_iload_n C.1 (pc := 46) d_Mod_replyAtForeign_46 rfl ?_
      refine rx_aload_n C.1 (pc := 47) d_Mod_replyAtForeign_47 rfl ?_
      refine g_Mod_13 D b ca C (pc := 48) d_Mod_replyAtForeign_48 ?_
      refine rx_bipush C.1 (v := 7) (pc := 51) d_Mod_replyAtForeign_51 (by decide) ?_
      refine rx_iald C (i := 73) (n := 9) (pc := 53) d_Mod_replyAtForeign_53 (rx_lt (by decide)) rfl (by first | assumption | exact rx_in2 (by assumption) | exact rx_v02 | exact rx_v12 | exact vp_in_iff.mpr (by decide) | exact fa_in (by assumption) (by assumption) | exact fa_in (by assumption) rx_iM0 | exact fa_in (by assumption) rx_iM1) ?_
      refine rx_cut1 (jpc := 78) (v := if (m1 73 (Int32.toNatClampNeg 7)) = 0 then ((m1 71 3) + (m1 73 (Int32.toNatClampNeg 6))) else (m1 89 ((2 * a) + m).toNatClampNeg)) (fun hk => ?_) ?_
      ·
        refine rx_if_ne C.1 (pc := 54) d_Mod_replyAtForeign_54 (tgt := 72) rfl (fun h3 => ?_) (fun h3 => ?_)
        ·
          refine rx_aload_n C.1 (pc := 72) d_Mod_replyAtForeign_72 rfl ?_
          refine g_Mod_61 D b ca C (pc := 73) d_Mod_replyAtForeign_73 ?_
          refine rx_iload_n C.1 (pc := 76) d_Mod_replyAtForeign_76 rfl ?_
          refine rx_iald C (i := 89) (n := 8) (pc := 77) d_Mod_replyAtForeign_77 (rx_lt (by decide)) rfl (by first | assumption | exact rx_in2 (by assumption) | exact rx_v02 | exact rx_v12 | exact vp_in_iff.mpr (by decide) | exact fa_in (by assumption) (by assumption) | exact fa_in (by assumption) rx_iM0 | exact fa_in (by assumption) rx_iM1) ?_
          rw [if_neg h3] at hk
          exact hk
        ·
          refine rx_aload_n C.1 (pc := 57) d_Mod_replyAtForeign_57 rfl ?_
          refine g_Mod_113 D b ca C (pc := 58) d_Mod_replyAtForeign_58 ?_
          refine rx_aload_n C.1 (pc := 61) d_Mod_replyAtForeign_61 rfl ?_
          refine g_Mod_13 D b ca C (pc := 62) d_Mod_replyAtForeign_62 ?_
          refine rx_bipush C.1 (v := 6) (pc := 65) d_Mod_replyAtForeign_65 (by decide) ?_
          refine rx_iald C (i := 73) (n := 9) (pc := 67) d_Mod_replyAtForeign_67 (rx_lt (by decide)) rfl (by first | assumption | exact rx_in2 (by assumption) | exact rx_v02 | exact rx_v12 | exact vp_in_iff.mpr (by decide) | exact fa_in (by assumption) (by assumption) | exact fa_in (by assumption) rx_iM0 | exact fa_in (by assumption) rx_iM1) ?_
          refine rx_iadd C.1 (pc := 68) d_Mod_replyAtForeign_68 ?_
          refine rx_goto C.1 (pc := 69) d_Mod_replyAtForeign_69 (tgt := 78) rfl ?_
          rw [if_pos h3] at hk
          exact hk
      refine rx_iast C (i := 89) (n := 8) (pc := 78) d_Mod_replyAtForeign_78 (rx_lt (by decide)) (fun _ => rfl) (by first | assumption | exact rx_in2 (by assumption) | exact rx_v02 | exact rx_v12 | exact vp_in_iff.mpr (by decide) | exact fa_in (by assumption) (by assumption) | exact fa_in (by assumption) rx_iM0 | exact fa_in (by assumption) rx_iM1) (rx_SI_wr (by omega)) ?_
      refine rx_nm (fun m2 e2 => ?_)
      refine rx_aload_n C.1 (pc := 79) d_Mod_replyAtForeign_79 rfl ?_
      refine rx_iconst C.1 (v := 3) (pc := 80) d_Mod_replyAtForeign_80 (by decide) ?_
      refine rx_iconst C.1 (v := 5) (pc := 81) d_Mod_replyAtForeign_81 (by decide) ?_
      refine rx_iload_n C.1 (pc := 82) d_Mod_replyAtForeign_82 rfl ?_
      refine rx_iload_n C.1 (pc := 83) d_Mod_replyAtForeign_83 rfl ?_
      refine rx_aload_n C.1 (pc := 84) d_Mod_replyAtForeign_84 rfl ?_
      refine g_Mod_13 D b ca C (pc := 85) d_Mod_replyAtForeign_85 ?_
      refine rx_iconst C.1 (v := 4) (pc := 88) d_Mod_replyAtForeign_88 (by decide) ?_
      refine rx_iald C (i := 73) (n := 9) (pc := 89) d_Mod_replyAtForeign_89 (rx_lt (by decide)) rfl (by first | assumption | exact rx_in2 (by assumption) | exact rx_v02 | exact rx_v12 | exact vp_in_iff.mpr (by decide) | exact fa_in (by assumption) (by assumption) | exact fa_in (by assumption) rx_iM0 | exact fa_in (by assumption) rx_iM1) ?_
      refine rx_aload_n C.1 (pc := 90) d_Mod_replyAtForeign_90 rfl ?_
      refine g_Mod_13 D b ca C (pc := 91) d_Mod_replyAtForeign_91 ?_
      refine rx_iconst C.1 (v := 5) (pc := 94) d_Mod_replyAtForeign_94 (by decide) ?_
      refine rx_iald C (i := 73) (n := 9) (pc := 95) d_Mod_replyAtForeign_95 (rx_lt (by decide)) rfl (by first | assumption | exact rx_in2 (by assumption) | exact rx_v02 | exact rx_v12 | exact vp_in_iff.mpr (by decide) | exact fa_in (by assumption) (by assumption) | exact fa_in (by assumption) rx_iM0 | exact fa_in (by assumption) rx_iM1) ?_
      refine rx_aload_n C.1 (pc := 96) d_Mod_replyAtForeign_96 rfl ?_
      refine g_Mod_13 D b ca C (pc := 97) d_Mod_replyAtForeign_97 ?_
      refine rx_bipush C.1 (v := 6) (pc := 100) d_Mod_replyAtForeign_100 (by decide) ?_
      refine rx_iald C (i := 73) (n := 9) (pc := 102) d_Mod_replyAtForeign_102 (rx_lt (by decide)) rfl (by first | assumption | exact rx_in2 (by assumption) | exact rx_v02 | exact rx_v12 | exact vp_in_iff.mpr (by decide) | exact fa_in (by assumption) (by assumption) | exact fa_in (by assumption) rx_iM0 | exact fa_in (by assumption) rx_iM1) ?_
      refine rx_aload_n C.1 (pc := 103) d_Mod_replyAtForeign_103 rfl ?_
      refine g_Mod_13 D b ca C (pc := 104) d_Mod_replyAtForeign_104 ?_
      refine rx_bipush C.1 (v := 7) (pc := 107) d_Mod_replyAtForeign_107 (by decide) ?_
      refine rx_iald C (i := 73) (n := 9) (pc := 109) d_Mod_replyAtForeign_109 (rx_lt (by decide)) rfl (by first | assumption | exact rx_in2 (by assumption) | exact rx_v02 | exact rx_v12 | exact vp_in_iff.mpr (by decide) | exact fa_in (by assumption) (by assumption) | exact fa_in (by assumption) rx_iM0 | exact fa_in (by assumption) rx_iM1) ?_
      refine rx_aload_n C.1 (pc := 110) d_Mod_replyAtForeign_110 rfl ?_
      refine g_Mod_13 D b ca C (pc := 111) d_Mod_replyAtForeign_111 ?_
      refine rx_bipush C.1 (v := 8) (pc := 114) d_Mod_replyAtForeign_114 (by decide) ?_
      refine rx_iald C (i := 73) (n := 9) (pc := 116) d_Mod_replyAtForeign_116 (rx_lt (by decide)) rfl (by first | assumption | exact rx_in2 (by assumption) | exact rx_v02 | exact rx_v12 | exact vp_in_iff.mpr (by decide) | exact fa_in (by assumption) (by assumption) | exact fa_in (by assumption) rx_iM0 | exact fa_in (by assumption) rx_iM1) ?_
      refine q_Mod_109 D b ca C (pc := 117) d_Mod_replyAtForeign_117 (c_Mod_send l D b ca ) ⟨Nat.le_of_ble_eq_true rfl, Nat.le_of_ble_eq_true rfl⟩ ⟨Nat.zero_le _, Nat.zero_le _⟩ (Nat.le_of_ble_eq_true rfl) ?_
      refine rx_nm (fun m3 e3 => ?_)
      exact rx_vret C (pc := 120) d_Mod_replyAtForeign_120 (by subst e3 e2 e1; unfold sp_Mod_replyAtForeign; first | (simp only [if_neg h1, if_pos h2]; done) | (simp only [if_neg h1, if_pos h2]; rfl))
    ·
      exact rx_vret C (pc := 34) d_Mod_replyAtForeign_34 (by unfold sp_Mod_replyAtForeign; first | (simp only [if_neg h1, if_neg h2]; done) | (simp only [if_neg h1, if_neg h2]; rfl))

def sp_Mod_tickMobile (σ : rMem) (m : Int32) : rMem := let m1 := rx_wr σ 79 m.toNatClampNeg (if (σ 71 3) < (σ 80 m.toNatClampNeg) then (σ 79 m.toNatClampNeg) else (-1) : Int32); let m2 := rx_wr m1 77 m.toNatClampNeg (if (m1 71 3) < (m1 78 m.toNatClampNeg) then (m1 77 m.toNatClampNeg) else (-1) : Int32); if (if (m2 81 m.toNatClampNeg) ≤ 0 then 0 else (if ((m2 71 3) - (m2 83 m.toNatClampNeg)) < 3 then 0 else 1) : Int32) = 0 then m2 else (if (m2 79 m.toNatClampNeg) = (m2 82 m.toNatClampNeg) then (let m4 := sp_Mod_register m2 m (m2 82 m.toNatClampNeg); m4) else (let m3 := rx_wr m2 81 m.toNatClampNeg 0; m3))
set_option maxHeartbeats 4000000 in
set_option maxRecDepth 100000 in
theorem c_Mod_tickMobile (l : Launch) (D : va_G) (b : Nat) (ca : Nat → ClassId) {σ : rMem} {m : Int32} (hm : rx_iM m) : rx_C l (rx_fin D b ca) y_Mod_tickMobile b_Mod_tickMobile 3 none (rx_rm 3) [.ref (rg_A (rx_fin D b ca) 71), .int m] σ none (sp_Mod_tickMobile σ m) := by
  refine rx_of (lo := [(0, .ref (rg_A (rx_fin D b ca) 71)), (1, .int m)]) (by decide) (rx_fin_D D b ca) rfl (Nat.le_of_ble_eq_true rfl) rfl ?_
  intro p e s mm below meth c C
  refine rx_aload_n C.1 (pc := 0) d_Mod_tickMobile_0 rfl ?_
  refine g_Mod_31 D b ca C (pc := 1) d_Mod_tickMobile_1 ?_
  refine rx_iload_n C.1 (pc := 4) d_Mod_tickMobile_4 rfl ?_
  refine rx_aload_n C.1 (pc := 5) d_Mod_tickMobile_5 rfl ?_
  refine g_Mod_34 D b ca C (pc := 6) d_Mod_tickMobile_6 ?_
  refine rx_iload_n C.1 (pc := 9) d_Mod_tickMobile_9 rfl ?_
  refine rx_iald C (i := 80) (n := 2) (pc := 10) d_Mod_tickMobile_10 (rx_lt (by decide)) rfl (by first | assumption | exact rx_in2 (by assumption) | exact rx_v02 | exact rx_v12 | exact vp_in_iff.mpr (by decide) | exact fa_in (by assumption) (by assumption) | exact fa_in (by assumption) rx_iM0 | exact fa_in (by assumption) rx_iM1) ?_
  refine rx_aload_n C.1 (pc := 11) d_Mod_tickMobile_11 rfl ?_
  refine g_Mod_113 D b ca C (pc := 12) d_Mod_tickMobile_12 ?_
  refine rx_cut2 (jpc := 28) (v := if (σ 71 3) < (σ 80 m.toNatClampNeg) then (σ 79 m.toNatClampNeg) else (-1)) (fun hk => ?_) ?_
  ·
    refine rx_icmp_gt C.1 (pc := 15) d_Mod_tickMobile_15 (tgt := 22) rfl (fun h1 => ?_) (fun h1 => ?_)
    ·
      refine rx_aload_n C.1 (pc := 22) d_Mod_tickMobile_22 rfl ?_
      refine g_Mod_31 D b ca C (pc := 23) d_Mod_tickMobile_23 ?_
      refine rx_iload_n C.1 (pc := 26) d_Mod_tickMobile_26 rfl ?_
      refine rx_iald C (i := 79) (n := 2) (pc := 27) d_Mod_tickMobile_27 (rx_lt (by decide)) rfl (by first | assumption | exact rx_in2 (by assumption) | exact rx_v02 | exact rx_v12 | exact vp_in_iff.mpr (by decide) | exact fa_in (by assumption) (by assumption) | exact fa_in (by assumption) rx_iM0 | exact fa_in (by assumption) rx_iM1) ?_
      rw [if_pos h1] at hk
      exact hk
    ·
      refine rx_iconst C.1 (v := (-1)) (pc := 18) d_Mod_tickMobile_18 (by decide) ?_
      refine rx_goto C.1 (pc := 19) d_Mod_tickMobile_19 (tgt := 28) rfl ?_
      rw [if_neg h1] at hk
      exact hk
  refine rx_iast C (i := 79) (n := 2) (pc := 28) d_Mod_tickMobile_28 (rx_lt (by decide)) (fun _ => rfl) (by first | assumption | exact rx_in2 (by assumption) | exact rx_v02 | exact rx_v12 | exact vp_in_iff.mpr (by decide) | exact fa_in (by assumption) (by assumption) | exact fa_in (by assumption) rx_iM0 | exact fa_in (by assumption) rx_iM1) (rx_SI_wr (by omega)) ?_
  refine rx_nm (fun m1 e1 => ?_)
  refine rx_aload_n C.1 (pc := 29) d_Mod_tickMobile_29 rfl ?_
  refine g_Mod_25 D b ca C (pc := 30) d_Mod_tickMobile_30 ?_
  refine rx_iload_n C.1 (pc := 33) d_Mod_tickMobile_33 rfl ?_
  refine rx_aload_n C.1 (pc := 34) d_Mod_tickMobile_34 rfl ?_
  refine g_Mod_28 D b ca C (pc := 35) d_Mod_tickMobile_35 ?_
  refine rx_iload_n C.1 (pc := 38) d_Mod_tickMobile_38 rfl ?_
  refine rx_iald C (i := 78) (n := 2) (pc := 39) d_Mod_tickMobile_39 (rx_lt (by decide)) rfl (by first | assumption | exact rx_in2 (by assumption) | exact rx_v02 | exact rx_v12 | exact vp_in_iff.mpr (by decide) | exact fa_in (by assumption) (by assumption) | exact fa_in (by assumption) rx_iM0 | exact fa_in (by assumption) rx_iM1) ?_
  refine rx_aload_n C.1 (pc := 40) d_Mod_tickMobile_40 rfl ?_
  refine g_Mod_113 D b ca C (pc := 41) d_Mod_tickMobile_41 ?_
  refine rx_cut2 (jpc := 57) (v := if (m1 71 3) < (m1 78 m.toNatClampNeg) then (m1 77 m.toNatClampNeg) else (-1)) (fun hk => ?_) ?_
  ·
    refine rx_icmp_gt C.1 (pc := 44) d_Mod_tickMobile_44 (tgt := 51) rfl (fun h2 => ?_) (fun h2 => ?_)
    ·
      refine rx_aload_n C.1 (pc := 51) d_Mod_tickMobile_51 rfl ?_
      refine g_Mod_25 D b ca C (pc := 52) d_Mod_tickMobile_52 ?_
      refine rx_iload_n C.1 (pc := 55) d_Mod_tickMobile_55 rfl ?_
      refine rx_iald C (i := 77) (n := 2) (pc := 56) d_Mod_tickMobile_56 (rx_lt (by decide)) rfl (by first | assumption | exact rx_in2 (by assumption) | exact rx_v02 | exact rx_v12 | exact vp_in_iff.mpr (by decide) | exact fa_in (by assumption) (by assumption) | exact fa_in (by assumption) rx_iM0 | exact fa_in (by assumption) rx_iM1) ?_
      rw [if_pos h2] at hk
      exact hk
    ·
      refine rx_iconst C.1 (v := (-1)) (pc := 47) d_Mod_tickMobile_47 (by decide) ?_
      refine rx_goto C.1 (pc := 48) d_Mod_tickMobile_48 (tgt := 57) rfl ?_
      rw [if_neg h2] at hk
      exact hk
  refine rx_iast C (i := 77) (n := 2) (pc := 57) d_Mod_tickMobile_57 (rx_lt (by decide)) (fun _ => rfl) (by first | assumption | exact rx_in2 (by assumption) | exact rx_v02 | exact rx_v12 | exact vp_in_iff.mpr (by decide) | exact fa_in (by assumption) (by assumption) | exact fa_in (by assumption) rx_iM0 | exact fa_in (by assumption) rx_iM1) (rx_SI_wr (by omega)) ?_
  refine rx_nm (fun m2 e2 => ?_)
  refine rx_aload_n C.1 (pc := 58) d_Mod_tickMobile_58 rfl ?_
  refine g_Mod_37 D b ca C (pc := 59) d_Mod_tickMobile_59 ?_
  refine rx_iload_n C.1 (pc := 62) d_Mod_tickMobile_62 rfl ?_
  refine rx_iald C (i := 81) (n := 2) (pc := 63) d_Mod_tickMobile_63 (rx_lt (by decide)) rfl (by first | assumption | exact rx_in2 (by assumption) | exact rx_v02 | exact rx_v12 | exact vp_in_iff.mpr (by decide) | exact fa_in (by assumption) (by assumption) | exact fa_in (by assumption) rx_iM0 | exact fa_in (by assumption) rx_iM1) ?_
  refine rx_cut1 (jpc := 87) (v := if (m2 81 m.toNatClampNeg) ≤ 0 then 0 else (if ((m2 71 3) - (m2 83 m.toNatClampNeg)) < 3 then 0 else 1)) (fun hk => ?_) ?_
  ·
    refine rx_if_le C.1 (pc := 64) d_Mod_tickMobile_64 (tgt := 86) rfl (fun h3 => ?_) (fun h3 => ?_)
    ·
      refine rx_iconst C.1 (v := 0) (pc := 86) d_Mod_tickMobile_86 (by decide) ?_
      rw [if_pos h3] at hk
      exact hk
    ·
      refine rx_aload_n C.1 (pc := 67) d_Mod_tickMobile_67 rfl ?_
      refine g_Mod_113 D b ca C (pc := 68) d_Mod_tickMobile_68 ?_
      refine rx_aload_n C.1 (pc := 71) d_Mod_tickMobile_71 rfl ?_
      refine g_Mod_43 D b ca C (pc := 72) d_Mod_tickMobile_72 ?_
      refine rx_iload_n C.1 (pc := 75) d_Mod_tickMobile_75 rfl ?_
      refine rx_iald C (i := 83) (n := 2) (pc := 76) d_Mod_tickMobile_76 (rx_lt (by decide)) rfl (by first | assumption | exact rx_in2 (by assumption) | exact rx_v02 | exact rx_v12 | exact vp_in_iff.mpr (by decide) | exact fa_in (by assumption) (by assumption) | exact fa_in (by assumption) rx_iM0 | exact fa_in (by assumption) rx_iM1) ?_
      refine rx_isub C.1 (pc := 77) d_Mod_tickMobile_77 ?_
      refine rx_iconst C.1 (v := 3) (pc := 78) d_Mod_tickMobile_78 (by decide) ?_
      refine rx_icmp_lt C.1 (pc := 79) d_Mod_tickMobile_79 (tgt := 86) rfl (fun h4 => ?_) (fun h4 => ?_)
      ·
        refine rx_iconst C.1 (v := 0) (pc := 86) d_Mod_tickMobile_86 (by decide) ?_
        rw [if_neg h3, if_pos h4] at hk
        exact hk
      ·
        refine rx_iconst C.1 (v := 1) (pc := 82) d_Mod_tickMobile_82 (by decide) ?_
        refine rx_goto C.1 (pc := 83) d_Mod_tickMobile_83 (tgt := 87) rfl ?_
        rw [if_neg h3, if_neg h4] at hk
        exact hk
  refine rx_istore_n C.1 (pc := 87) d_Mod_tickMobile_87 (by decide) ?_
  refine rx_iload_n C.1 (pc := 88) d_Mod_tickMobile_88 rfl ?_
  refine rx_if_eq C.1 (pc := 89) d_Mod_tickMobile_89 (tgt := 121) rfl (fun h5 => ?_) (fun h5 => ?_)
  ·
    refine rx_iload_n C.1 (pc := 121) d_Mod_tickMobile_121 rfl ?_
    refine rx_if_eq C.1 (pc := 122) d_Mod_tickMobile_122 (tgt := 132) rfl (fun _ => ?_) (fun h9 => absurd h5 h9)
    exact rx_vret C (pc := 132) d_Mod_tickMobile_132 (by subst e2 e1; unfold sp_Mod_tickMobile; first | (simp only [if_pos h5]; done) | (simp only [if_pos h5]; rfl))
  ·
    refine rx_aload_n C.1 (pc := 92) d_Mod_tickMobile_92 rfl ?_
    refine g_Mod_31 D b ca C (pc := 93) d_Mod_tickMobile_93 ?_
    refine rx_iload_n C.1 (pc := 96) d_Mod_tickMobile_96 rfl ?_
    refine rx_iald C (i := 79) (n := 2) (pc := 97) d_Mod_tickMobile_97 (rx_lt (by decide)) rfl (by first | assumption | exact rx_in2 (by assumption) | exact rx_v02 | exact rx_v12 | exact vp_in_iff.mpr (by decide) | exact fa_in (by assumption) (by assumption) | exact fa_in (by assumption) rx_iM0 | exact fa_in (by assumption) rx_iM1) ?_
    refine rx_aload_n C.1 (pc := 98) d_Mod_tickMobile_98 rfl ?_
    refine g_Mod_40 D b ca C (pc := 99) d_Mod_tickMobile_99 ?_
    refine rx_iload_n C.1 (pc := 102) d_Mod_tickMobile_102 rfl ?_
    refine rx_iald C (i := 82) (n := 2) (pc := 103) d_Mod_tickMobile_103 (rx_lt (by decide)) rfl (by first | assumption | exact rx_in2 (by assumption) | exact rx_v02 | exact rx_v12 | exact vp_in_iff.mpr (by decide) | exact fa_in (by assumption) (by assumption) | exact fa_in (by assumption) rx_iM0 | exact fa_in (by assumption) rx_iM1) ?_
    refine rx_icmp_ne C.1 (pc := 104) d_Mod_tickMobile_104 (tgt := 121) rfl (fun h6 => ?_) (fun h6 => ?_)
    ·
      refine rx_iload_n C.1 (pc := 121) d_Mod_tickMobile_121 rfl ?_
      refine rx_if_eq C.1 (pc := 122) d_Mod_tickMobile_122 (tgt := 132) rfl (fun h9 => absurd h9 h5) (fun _ => ?_)
      refine rx_aload_n C.1 (pc := 125) d_Mod_tickMobile_125 rfl ?_
      refine g_Mod_37 D b ca C (pc := 126) d_Mod_tickMobile_126 ?_
      refine rx_iload_n C.1 (pc := 129) d_Mod_tickMobile_129 rfl ?_
      refine rx_iconst C.1 (v := 0) (pc := 130) d_Mod_tickMobile_130 (by decide) ?_
      refine rx_iast C (i := 81) (n := 2) (pc := 131) d_Mod_tickMobile_131 (rx_lt (by decide)) (fun _ => rfl) (by first | assumption | exact rx_in2 (by assumption) | exact rx_v02 | exact rx_v12 | exact vp_in_iff.mpr (by decide) | exact fa_in (by assumption) (by assumption) | exact fa_in (by assumption) rx_iM0 | exact fa_in (by assumption) rx_iM1) (rx_SI_wr (by omega)) ?_
      refine rx_nm (fun m3 e3 => ?_)
      exact rx_vret C (pc := 132) d_Mod_tickMobile_132 (by subst e3 e2 e1; unfold sp_Mod_tickMobile; first | (simp only [if_neg h5, if_neg h6]; done) | (simp only [if_neg h5, if_neg h6]; rfl))
    ·
      refine rx_aload_n C.1 (pc := 107) d_Mod_tickMobile_107 rfl ?_
      refine rx_iload_n C.1 (pc := 108) d_Mod_tickMobile_108 rfl ?_
      refine rx_aload_n C.1 (pc := 109) d_Mod_tickMobile_109 rfl ?_
      refine g_Mod_40 D b ca C (pc := 110) d_Mod_tickMobile_110 ?_
      refine rx_iload_n C.1 (pc := 113) d_Mod_tickMobile_113 rfl ?_
      refine rx_iald C (i := 82) (n := 2) (pc := 114) d_Mod_tickMobile_114 (rx_lt (by decide)) rfl (by first | assumption | exact rx_in2 (by assumption) | exact rx_v02 | exact rx_v12 | exact vp_in_iff.mpr (by decide) | exact fa_in (by assumption) (by assumption) | exact fa_in (by assumption) rx_iM0 | exact fa_in (by assumption) rx_iM1) ?_
      refine q_Mod_116 D b ca C (pc := 115) d_Mod_tickMobile_115 (c_Mod_register l D b ca (by first | assumption | exact rx_iM0 | exact rx_iM1 | (constructor <;> omega))) ⟨Nat.le_of_ble_eq_true rfl, Nat.le_of_ble_eq_true rfl⟩ ⟨Nat.zero_le _, Nat.zero_le _⟩ (Nat.le_of_ble_eq_true rfl) ?_
      refine rx_nm (fun m4 e4 => ?_)
      refine rx_goto C.1 (pc := 118) d_Mod_tickMobile_118 (tgt := 132) rfl ?_
      exact rx_vret C (pc := 132) d_Mod_tickMobile_132 (by subst e4 e2 e1; unfold sp_Mod_tickMobile; first | (simp only [if_neg h5, if_pos h6]; done) | (simp only [if_neg h5, if_pos h6]; rfl))

def sp_Mod_inject (σ : rMem) (a : Int32) (m : Int32) (co : Int32) (lt : Int32) (id : Int32) (sl : Int32) : rMem × Int32 := if a < 0 then (σ, 0) else (if 3 < a then (σ, 0) else (if (if (rv_Mod_isMobile m) = 0 then 0 else (if co < 0 then 0 else (if 3 < co then 0 else (if lt < 0 then 0 else (if 60 < lt then 0 else (if id < 1 then 0 else (if 9999 < id then 0 else 1)))))) : Int32) = 0 then (σ, 0) else (if (if co = 0 then 1 else 0 : Int32) = (if lt = 0 then 1 else 0 : Int32) then (if (σ 71 4) < 40 then (let m1 := sp_Mod_send σ 2 a m 0 id co lt 0 sl; (m1, 1)) else (σ, 0)) else (σ, 0))))
set_option maxHeartbeats 4000000 in
set_option maxRecDepth 100000 in
theorem c_Mod_inject (l : Launch) (D : va_G) (b : Nat) (ca : Nat → ClassId) {σ : rMem} {a : Int32} {m : Int32} {co : Int32} {lt : Int32} {id : Int32} {sl : Int32} : rx_C l (rx_fin D b ca) y_Mod_inject b_Mod_inject 8 (some .boolean) (rx_rm 1) [.ref (rg_A (rx_fin D b ca) 71), .int a, .int m, .int co, .int lt, .int id, .int sl] σ (some (.int (sp_Mod_inject σ a m co lt id sl).2)) (sp_Mod_inject σ a m co lt id sl).1 := by
  refine rx_of (lo := [(0, .ref (rg_A (rx_fin D b ca) 71)), (1, .int a), (2, .int m), (3, .int co), (4, .int lt), (5, .int id), (6, .int sl)]) (by decide) (rx_fin_D D b ca) rfl (Nat.le_of_ble_eq_true rfl) rfl ?_
  intro p e s mm below meth c C
  refine rx_iload_n C.1 (pc := 0) d_Mod_inject_0 rfl ?_
  refine rx_if_lt C.1 (pc := 1) d_Mod_inject_1 (tgt := 55) rfl (fun h1 => ?_) (fun h1 => ?_)
  ·
    refine rx_iconst C.1 (v := 0) (pc := 55) d_Mod_inject_55 (by decide) ?_
    refine rx_istore C.1 (pc := 56) d_Mod_inject_56 (by decide) ?_
    refine rx_iload C.1 (pc := 58) d_Mod_inject_58 rfl ?_
    refine rx_if_eq C.1 (pc := 60) d_Mod_inject_60 (tgt := 94) rfl (fun _ => ?_) (fun h9 => absurd (by decide) h9) 
    refine rx_iconst C.1 (v := 0) (pc := 94) d_Mod_inject_94 (by decide) ?_
    exact rx_zret C (pc := 95) d_Mod_inject_95 (Or.inl rfl) (by unfold sp_Mod_inject; first | (simp only [if_pos h1]; done) | (simp only [if_pos h1]; rfl)) (by unfold sp_Mod_inject; first | (simp only [if_pos h1]; done) | (simp only [if_pos h1]; rfl))
  ·
    refine rx_iload_n C.1 (pc := 4) d_Mod_inject_4 rfl ?_
    refine rx_iconst C.1 (v := 3) (pc := 5) d_Mod_inject_5 (by decide) ?_
    refine rx_icmp_gt C.1 (pc := 6) d_Mod_inject_6 (tgt := 55) rfl (fun h2 => ?_) (fun h2 => ?_)
    ·
      refine rx_iconst C.1 (v := 0) (pc := 55) d_Mod_inject_55 (by decide) ?_
      refine rx_istore C.1 (pc := 56) d_Mod_inject_56 (by decide) ?_
      refine rx_iload C.1 (pc := 58) d_Mod_inject_58 rfl ?_
      refine rx_if_eq C.1 (pc := 60) d_Mod_inject_60 (tgt := 94) rfl (fun _ => ?_) (fun h9 => absurd (by decide) h9) 
      refine rx_iconst C.1 (v := 0) (pc := 94) d_Mod_inject_94 (by decide) ?_
      exact rx_zret C (pc := 95) d_Mod_inject_95 (Or.inl rfl) (by unfold sp_Mod_inject; first | (simp only [if_neg h1, if_pos h2]; done) | (simp only [if_neg h1, if_pos h2]; rfl)) (by unfold sp_Mod_inject; first | (simp only [if_neg h1, if_pos h2]; done) | (simp only [if_neg h1, if_pos h2]; rfl))
    ·
      refine rx_iload_n C.1 (pc := 9) d_Mod_inject_9 rfl ?_
      refine q_Mod_101 C.1 (pc := 10) d_Mod_inject_10 (c_Mod_isMobile l ) ⟨Nat.le_of_ble_eq_true rfl, Nat.le_of_ble_eq_true rfl⟩ ⟨Nat.zero_le _, Nat.zero_le _⟩ (Nat.le_of_ble_eq_true rfl) ?_
      refine rx_cut1 (jpc := 56) (v := if (rv_Mod_isMobile m) = 0 then 0 else (if co < 0 then 0 else (if 3 < co then 0 else (if lt < 0 then 0 else (if 60 < lt then 0 else (if id < 1 then 0 else (if 9999 < id then 0 else 1))))))) (fun hk => ?_) ?_
      ·
        refine rx_if_eq C.1 (pc := 13) d_Mod_inject_13 (tgt := 55) rfl (fun h3 => ?_) (fun h3 => ?_)
        ·
          refine rx_iconst C.1 (v := 0) (pc := 55) d_Mod_inject_55 (by decide) ?_
          rw [if_pos h3] at hk
          exact hk
        ·
          have g3 := rm_Mod h3
          have j3 := rx_j2 g3
          refine rx_iload_n C.1 (pc := 16) d_Mod_inject_16 rfl ?_
          refine rx_if_lt C.1 (pc := 17) d_Mod_inject_17 (tgt := 55) rfl (fun h4 => ?_) (fun h4 => ?_)
          ·
            refine rx_iconst C.1 (v := 0) (pc := 55) d_Mod_inject_55 (by decide) ?_
            rw [if_neg h3, if_pos h4] at hk
            exact hk
          ·
            refine rx_iload_n C.1 (pc := 20) d_Mod_inject_20 rfl ?_
            refine rx_iconst C.1 (v := 3) (pc := 21) d_Mod_inject_21 (by decide) ?_
            refine rx_icmp_gt C.1 (pc := 22) d_Mod_inject_22 (tgt := 55) rfl (fun h5 => ?_) (fun h5 => ?_)
            ·
              refine rx_iconst C.1 (v := 0) (pc := 55) d_Mod_inject_55 (by decide) ?_
              rw [if_neg h3, if_neg h4, if_pos h5] at hk
              exact hk
            ·
              refine rx_iload C.1 (pc := 25) d_Mod_inject_25 rfl ?_
              refine rx_if_lt C.1 (pc := 27) d_Mod_inject_27 (tgt := 55) rfl (fun h6 => ?_) (fun h6 => ?_)
              ·
                refine rx_iconst C.1 (v := 0) (pc := 55) d_Mod_inject_55 (by decide) ?_
                rw [if_neg h3, if_neg h4, if_neg h5, if_pos h6] at hk
                exact hk
              ·
                refine rx_iload C.1 (pc := 30) d_Mod_inject_30 rfl ?_
                refine rx_bipush C.1 (v := 60) (pc := 32) d_Mod_inject_32 (by decide) ?_
                refine rx_icmp_gt C.1 (pc := 34) d_Mod_inject_34 (tgt := 55) rfl (fun h7 => ?_) (fun h7 => ?_)
                ·
                  refine rx_iconst C.1 (v := 0) (pc := 55) d_Mod_inject_55 (by decide) ?_
                  rw [if_neg h3, if_neg h4, if_neg h5, if_neg h6, if_pos h7] at hk
                  exact hk
                ·
                  refine rx_iload C.1 (pc := 37) d_Mod_inject_37 rfl ?_
                  refine rx_iconst C.1 (v := 1) (pc := 39) d_Mod_inject_39 (by decide) ?_
                  refine rx_icmp_lt C.1 (pc := 40) d_Mod_inject_40 (tgt := 55) rfl (fun h8 => ?_) (fun h8 => ?_)
                  ·
                    refine rx_iconst C.1 (v := 0) (pc := 55) d_Mod_inject_55 (by decide) ?_
                    rw [if_neg h3, if_neg h4, if_neg h5, if_neg h6, if_neg h7, if_pos h8] at hk
                    exact hk
                  ·
                    refine rx_iload C.1 (pc := 43) d_Mod_inject_43 rfl ?_
                    refine rx_sipush C.1 (v := 9999) (pc := 45) d_Mod_inject_45 (by decide) ?_
                    refine rx_icmp_gt C.1 (pc := 48) d_Mod_inject_48 (tgt := 55) rfl (fun h9 => ?_) (fun h9 => ?_)
                    ·
                      refine rx_iconst C.1 (v := 0) (pc := 55) d_Mod_inject_55 (by decide) ?_
                      rw [if_neg h3, if_neg h4, if_neg h5, if_neg h6, if_neg h7, if_neg h8, if_pos h9] at hk
                      exact hk
                    ·
                      refine rx_iconst C.1 (v := 1) (pc := 51) d_Mod_inject_51 (by decide) ?_
                      refine rx_goto C.1 (pc := 52) d_Mod_inject_52 (tgt := 56) rfl ?_
                      rw [if_neg h3, if_neg h4, if_neg h5, if_neg h6, if_neg h7, if_neg h8, if_neg h9] at hk
                      exact hk
      refine rx_istore C.1 (pc := 56) d_Mod_inject_56 (by decide) ?_
      refine rx_iload C.1 (pc := 58) d_Mod_inject_58 rfl ?_
      refine rx_if_eq C.1 (pc := 60) d_Mod_inject_60 (tgt := 94) rfl (fun h10 => ?_) (fun h10 => ?_)
      ·
        refine rx_iconst C.1 (v := 0) (pc := 94) d_Mod_inject_94 (by decide) ?_
        exact rx_zret C (pc := 95) d_Mod_inject_95 (Or.inl rfl) (by unfold sp_Mod_inject; first | (simp only [if_neg h1, if_neg h2, if_pos h10]; done) | (simp only [if_neg h1, if_neg h2, if_pos h10]; rfl)) (by unfold sp_Mod_inject; first | (simp only [if_neg h1, if_neg h2, if_pos h10]; done) | (simp only [if_neg h1, if_neg h2, if_pos h10]; rfl))
      ·
        refine rx_iload_n C.1 (pc := 63) d_Mod_inject_63 rfl ?_
        refine rx_cut1 (jpc := 72) (v := if co = 0 then 1 else 0) (fun hk => ?_) ?_
        ·
          refine rx_if_ne C.1 (pc := 64) d_Mod_inject_64 (tgt := 71) rfl (fun h11 => ?_) (fun h11 => ?_)
          ·
            refine rx_iconst C.1 (v := 0) (pc := 71) d_Mod_inject_71 (by decide) ?_
            rw [if_neg h11] at hk
            exact hk
          ·
            refine rx_iconst C.1 (v := 1) (pc := 67) d_Mod_inject_67 (by decide) ?_
            refine rx_goto C.1 (pc := 68) d_Mod_inject_68 (tgt := 72) rfl ?_
            rw [if_pos h11] at hk
            exact hk
        refine rx_iload C.1 (pc := 72) d_Mod_inject_72 rfl ?_
        refine rx_cut1 (jpc := 82) (v := if lt = 0 then 1 else 0) (fun hk => ?_) ?_
        ·
          refine rx_if_ne C.1 (pc := 74) d_Mod_inject_74 (tgt := 81) rfl (fun h12 => ?_) (fun h12 => ?_)
          ·
            refine rx_iconst C.1 (v := 0) (pc := 81) d_Mod_inject_81 (by decide) ?_
            rw [if_neg h12] at hk
            exact hk
          ·
            refine rx_iconst C.1 (v := 1) (pc := 77) d_Mod_inject_77 (by decide) ?_
            refine rx_goto C.1 (pc := 78) d_Mod_inject_78 (tgt := 82) rfl ?_
            rw [if_pos h12] at hk
            exact hk
        refine rx_icmp_ne C.1 (pc := 82) d_Mod_inject_82 (tgt := 94) rfl (fun h13 => ?_) (fun h13 => ?_)
        ·
          refine rx_iconst C.1 (v := 0) (pc := 94) d_Mod_inject_94 (by decide) ?_
          exact rx_zret C (pc := 95) d_Mod_inject_95 (Or.inl rfl) (by unfold sp_Mod_inject; first | (simp only [if_neg h1, if_neg h2, if_neg h10, if_neg h13]; done) | (simp only [if_neg h1, if_neg h2, if_neg h10, if_neg h13]; rfl)) (by unfold sp_Mod_inject; first | (simp only [if_neg h1, if_neg h2, if_neg h10, if_neg h13]; done) | (simp only [if_neg h1, if_neg h2, if_neg h10, if_neg h13]; rfl))
        ·
          refine rx_aload_n C.1 (pc := 85) d_Mod_inject_85 rfl ?_
          refine g_Mod_93 D b ca C (pc := 86) d_Mod_inject_86 ?_
          refine rx_bipush C.1 (v := 40) (pc := 89) d_Mod_inject_89 (by decide) ?_
          refine rx_icmp_lt C.1 (pc := 91) d_Mod_inject_91 (tgt := 96) rfl (fun h14 => ?_) (fun h14 => ?_)
          ·
            refine rx_aload_n C.1 (pc := 96) d_Mod_inject_96 rfl ?_
            refine rx_iconst C.1 (v := 2) (pc := 97) d_Mod_inject_97 (by decide) ?_
            refine rx_iload_n C.1 (pc := 98) d_Mod_inject_98 rfl ?_
            refine rx_iload_n C.1 (pc := 99) d_Mod_inject_99 rfl ?_
            refine rx_iconst C.1 (v := 0) (pc := 100) d_Mod_inject_100 (by decide) ?_
            refine rx_iload C.1 (pc := 101) d_Mod_inject_101 rfl ?_
            refine rx_iload_n C.1 (pc := 103) d_Mod_inject_103 rfl ?_
            refine rx_iload C.1 (pc := 104) d_Mod_inject_104 rfl ?_
            refine rx_iconst C.1 (v := 0) (pc := 106) d_Mod_inject_106 (by decide) ?_
            refine rx_iload C.1 (pc := 107) d_Mod_inject_107 rfl ?_
            refine q_Mod_109 D b ca C (pc := 109) d_Mod_inject_109 (c_Mod_send l D b ca ) ⟨Nat.le_of_ble_eq_true rfl, Nat.le_of_ble_eq_true rfl⟩ ⟨Nat.zero_le _, Nat.zero_le _⟩ (Nat.le_of_ble_eq_true rfl) ?_
            refine rx_nm (fun m1 e1 => ?_)
            refine rx_iconst C.1 (v := 1) (pc := 112) d_Mod_inject_112 (by decide) ?_
            exact rx_zret C (pc := 113) d_Mod_inject_113 (Or.inr rfl) (by subst e1; unfold sp_Mod_inject; first | (simp only [if_neg h1, if_neg h2, if_neg h10, if_pos h13, if_pos h14]; done) | (simp only [if_neg h1, if_neg h2, if_neg h10, if_pos h13, if_pos h14]; rfl)) (by subst e1; unfold sp_Mod_inject; first | (simp only [if_neg h1, if_neg h2, if_neg h10, if_pos h13, if_pos h14]; done) | (simp only [if_neg h1, if_neg h2, if_neg h10, if_pos h13, if_pos h14]; rfl))
          ·
            refine rx_iconst C.1 (v := 0) (pc := 94) d_Mod_inject_94 (by decide) ?_
            exact rx_zret C (pc := 95) d_Mod_inject_95 (Or.inl rfl) (by unfold sp_Mod_inject; first | (simp only [if_neg h1, if_neg h2, if_neg h10, if_pos h13, if_neg h14]; done) | (simp only [if_neg h1, if_neg h2, if_neg h10, if_pos h13, if_neg h14]; rfl)) (by unfold sp_Mod_inject; first | (simp only [if_neg h1, if_neg h2, if_neg h10, if_pos h13, if_neg h14]; done) | (simp only [if_neg h1, if_neg h2, if_neg h10, if_pos h13, if_neg h14]; rfl))

def rv_Mod_messages (σ : rMem)  : Int32 := (σ 71 4)
set_option maxHeartbeats 4000000 in
set_option maxRecDepth 100000 in
theorem c_Mod_messages (l : Launch) (D : va_G) (b : Nat) (ca : Nat → ClassId) {σ : rMem}  : rx_C l (rx_fin D b ca) y_Mod_messages b_Mod_messages 1 (some .int) (rx_rm 0) [.ref (rg_A (rx_fin D b ca) 71)] σ (some (.int (rv_Mod_messages σ))) σ := by
  refine rx_of (lo := [(0, .ref (rg_A (rx_fin D b ca) 71))]) (by decide) (rx_fin_D D b ca) rfl (Nat.le_of_ble_eq_true rfl) rfl ?_
  intro p e s mm below meth c C
  refine rx_aload_n C.1 (pc := 0) d_Mod_messages_0 rfl ?_
  refine g_Mod_93 D b ca C (pc := 1) d_Mod_messages_1 ?_
  exact rx_iret C (pc := 4) d_Mod_messages_4 (by first | rfl | (unfold rv_Mod_messages; rfl)) rfl

def rv_Mod_message (σ : rMem) (i : Int32) : Int32 := (if (rv_Mod_isMessage σ i) = 0 then (-1) else ((((1000000 * (σ 72 (9 * i).toNatClampNeg)) + (100000 * (σ 72 ((9 * i) + 1).toNatClampNeg))) + (10000 * (σ 72 ((9 * i) + 2).toNatClampNeg))) + (σ 72 ((9 * i) + 4).toNatClampNeg)) : Int32)
set_option maxHeartbeats 4000000 in
set_option maxRecDepth 100000 in
theorem c_Mod_message (l : Launch) (D : va_G) (b : Nat) (ca : Nat → ClassId) {σ : rMem} {i : Int32} : rx_C l (rx_fin D b ca) y_Mod_message b_Mod_message 2 (some .int) (rx_rm 1) [.ref (rg_A (rx_fin D b ca) 71), .int i] σ (some (.int (rv_Mod_message σ i))) σ := by
  refine rx_of (lo := [(0, .ref (rg_A (rx_fin D b ca) 71)), (1, .int i)]) (by decide) (rx_fin_D D b ca) rfl (Nat.le_of_ble_eq_true rfl) rfl ?_
  intro p e s mm below meth c C
  refine rx_si (fun hI => ?_)
  refine rx_aload_n C.1 (pc := 0) d_Mod_message_0 rfl ?_
  refine rx_iload_n C.1 (pc := 1) d_Mod_message_1 rfl ?_
  refine q_Mod_132 D b ca C (pc := 2) d_Mod_message_2 (c_Mod_isMessage l D b ca ) ⟨Nat.le_of_ble_eq_true rfl, Nat.le_of_ble_eq_true rfl⟩ ⟨Nat.zero_le _, Nat.zero_le _⟩ (Nat.le_of_ble_eq_true rfl) ?_
  refine rx_cut1 (jpc := 67) (v := if (rv_Mod_isMessage σ i) = 0 then (-1) else ((((1000000 * (σ 72 (9 * i).toNatClampNeg)) + (100000 * (σ 72 ((9 * i) + 1).toNatClampNeg))) + (10000 * (σ 72 ((9 * i) + 2).toNatClampNeg))) + (σ 72 ((9 * i) + 4).toNatClampNeg))) (fun hk => ?_) ?_
  ·
    refine rx_if_eq C.1 (pc := 5) d_Mod_message_5 (tgt := 66) rfl (fun h1 => ?_) (fun h1 => ?_)
    ·
      refine rx_iconst C.1 (v := (-1)) (pc := 66) d_Mod_message_66 (by decide) ?_
      rw [if_pos h1] at hk
      exact hk
    ·
      have g1 := rh_Mod h1
      refine rx_ldc C.1 (v := 1000000) k_Mod_168 (pc := 8) d_Mod_message_8 ?_
      refine rx_aload_n C.1 (pc := 10) d_Mod_message_10 rfl ?_
      refine g_Mod_7 D b ca C (pc := 11) d_Mod_message_11 ?_
      refine rx_bipush C.1 (v := 9) (pc := 14) d_Mod_message_14 (by decide) ?_
      refine rx_iload_n C.1 (pc := 16) d_Mod_message_16 rfl ?_
      refine rx_imul C.1 (pc := 17) d_Mod_message_17 ?_
      refine rx_iald C (i := 72) (n := 369) (pc := 18) d_Mod_message_18 (rx_lt (by decide)) rfl (ms_in0 hI g1) ?_
      refine rx_imul C.1 (pc := 19) d_Mod_message_19 ?_
      refine rx_ldc C.1 (v := 100000) k_Mod_169 (pc := 20) d_Mod_message_20 ?_
      refine rx_aload_n C.1 (pc := 22) d_Mod_message_22 rfl ?_
      refine g_Mod_7 D b ca C (pc := 23) d_Mod_message_23 ?_
      refine rx_bipush C.1 (v := 9) (pc := 26) d_Mod_message_26 (by decide) ?_
      refine rx_iload_n C.1 (pc := 28) d_Mod_message_28 rfl ?_
      refine rx_imul C.1 (pc := 29) d_Mod_message_29 ?_
      refine rx_iconst C.1 (v := 1) (pc := 30) d_Mod_message_30 (by decide) ?_
      refine rx_iadd C.1 (pc := 31) d_Mod_message_31 ?_
      refine rx_iald C (i := 72) (n := 369) (pc := 32) d_Mod_message_32 (rx_lt (by decide)) rfl (ms_in hI g1 (by decide)) ?_
      refine rx_imul C.1 (pc := 33) d_Mod_message_33 ?_
      refine rx_iadd C.1 (pc := 34) d_Mod_message_34 ?_
      refine rx_sipush C.1 (v := 10000) (pc := 35) d_Mod_message_35 (by decide) ?_
      refine rx_aload_n C.1 (pc := 38) d_Mod_message_38 rfl ?_
      refine g_Mod_7 D b ca C (pc := 39) d_Mod_message_39 ?_
      refine rx_bipush C.1 (v := 9) (pc := 42) d_Mod_message_42 (by decide) ?_
      refine rx_iload_n C.1 (pc := 44) d_Mod_message_44 rfl ?_
      refine rx_imul C.1 (pc := 45) d_Mod_message_45 ?_
      refine rx_iconst C.1 (v := 2) (pc := 46) d_Mod_message_46 (by decide) ?_
      refine rx_iadd C.1 (pc := 47) d_Mod_message_47 ?_
      refine rx_iald C (i := 72) (n := 369) (pc := 48) d_Mod_message_48 (rx_lt (by decide)) rfl (ms_in hI g1 (by decide)) ?_
      refine rx_imul C.1 (pc := 49) d_Mod_message_49 ?_
      refine rx_iadd C.1 (pc := 50) d_Mod_message_50 ?_
      refine rx_aload_n C.1 (pc := 51) d_Mod_message_51 rfl ?_
      refine g_Mod_7 D b ca C (pc := 52) d_Mod_message_52 ?_
      refine rx_bipush C.1 (v := 9) (pc := 55) d_Mod_message_55 (by decide) ?_
      refine rx_iload_n C.1 (pc := 57) d_Mod_message_57 rfl ?_
      refine rx_imul C.1 (pc := 58) d_Mod_message_58 ?_
      refine rx_iconst C.1 (v := 4) (pc := 59) d_Mod_message_59 (by decide) ?_
      refine rx_iadd C.1 (pc := 60) d_Mod_message_60 ?_
      refine rx_iald C (i := 72) (n := 369) (pc := 61) d_Mod_message_61 (rx_lt (by decide)) rfl (ms_in hI g1 (by decide)) ?_
      refine rx_iadd C.1 (pc := 62) d_Mod_message_62 ?_
      refine rx_goto C.1 (pc := 63) d_Mod_message_63 (tgt := 67) rfl ?_
      rw [if_neg h1] at hk
      exact hk
  exact rx_iret C (pc := 67) d_Mod_message_67 (by first | rfl | (unfold rv_Mod_message; rfl)) rfl

def rv_Mod_place (σ : rMem) (m : Int32) : Int32 := (if (rv_Mod_isMobile m) = 0 then (-1) else (σ 74 m.toNatClampNeg) : Int32)
set_option maxHeartbeats 4000000 in
set_option maxRecDepth 100000 in
theorem c_Mod_place (l : Launch) (D : va_G) (b : Nat) (ca : Nat → ClassId) {σ : rMem} {m : Int32} : rx_C l (rx_fin D b ca) y_Mod_place b_Mod_place 2 (some .int) (rx_rm 1) [.ref (rg_A (rx_fin D b ca) 71), .int m] σ (some (.int (rv_Mod_place σ m))) σ := by
  refine rx_of (lo := [(0, .ref (rg_A (rx_fin D b ca) 71)), (1, .int m)]) (by decide) (rx_fin_D D b ca) rfl (Nat.le_of_ble_eq_true rfl) rfl ?_
  intro p e s mm below meth c C
  refine rx_iload_n C.1 (pc := 0) d_Mod_place_0 rfl ?_
  refine q_Mod_101 C.1 (pc := 1) d_Mod_place_1 (c_Mod_isMobile l ) ⟨Nat.le_of_ble_eq_true rfl, Nat.le_of_ble_eq_true rfl⟩ ⟨Nat.zero_le _, Nat.zero_le _⟩ (Nat.le_of_ble_eq_true rfl) ?_
  refine rx_cut1 (jpc := 17) (v := if (rv_Mod_isMobile m) = 0 then (-1) else (σ 74 m.toNatClampNeg)) (fun hk => ?_) ?_
  ·
    refine rx_if_eq C.1 (pc := 4) d_Mod_place_4 (tgt := 16) rfl (fun h1 => ?_) (fun h1 => ?_)
    ·
      refine rx_iconst C.1 (v := (-1)) (pc := 16) d_Mod_place_16 (by decide) ?_
      rw [if_pos h1] at hk
      exact hk
    ·
      have g1 := rm_Mod h1
      have j1 := rx_j2 g1
      refine rx_aload_n C.1 (pc := 7) d_Mod_place_7 rfl ?_
      refine g_Mod_16 D b ca C (pc := 8) d_Mod_place_8 ?_
      refine rx_iload_n C.1 (pc := 11) d_Mod_place_11 rfl ?_
      refine rx_iald C (i := 74) (n := 2) (pc := 12) d_Mod_place_12 (rx_lt (by decide)) rfl (by first | assumption | exact rx_in2 (by assumption) | exact rx_v02 | exact rx_v12 | exact vp_in_iff.mpr (by decide) | exact fa_in (by assumption) (by assumption) | exact fa_in (by assumption) rx_iM0 | exact fa_in (by assumption) rx_iM1) ?_
      refine rx_goto C.1 (pc := 13) d_Mod_place_13 (tgt := 17) rfl ?_
      rw [if_neg h1] at hk
      exact hk
  exact rx_iret C (pc := 17) d_Mod_place_17 (by first | rfl | (unfold rv_Mod_place; rfl)) rfl

def rv_Mod_registered (σ : rMem) (m : Int32) : Int32 := (if (rv_Mod_isMobile m) = 0 then (-1) else (σ 77 m.toNatClampNeg) : Int32)
set_option maxHeartbeats 4000000 in
set_option maxRecDepth 100000 in
theorem c_Mod_registered (l : Launch) (D : va_G) (b : Nat) (ca : Nat → ClassId) {σ : rMem} {m : Int32} : rx_C l (rx_fin D b ca) y_Mod_registered b_Mod_registered 2 (some .int) (rx_rm 1) [.ref (rg_A (rx_fin D b ca) 71), .int m] σ (some (.int (rv_Mod_registered σ m))) σ := by
  refine rx_of (lo := [(0, .ref (rg_A (rx_fin D b ca) 71)), (1, .int m)]) (by decide) (rx_fin_D D b ca) rfl (Nat.le_of_ble_eq_true rfl) rfl ?_
  intro p e s mm below meth c C
  refine rx_iload_n C.1 (pc := 0) d_Mod_registered_0 rfl ?_
  refine q_Mod_101 C.1 (pc := 1) d_Mod_registered_1 (c_Mod_isMobile l ) ⟨Nat.le_of_ble_eq_true rfl, Nat.le_of_ble_eq_true rfl⟩ ⟨Nat.zero_le _, Nat.zero_le _⟩ (Nat.le_of_ble_eq_true rfl) ?_
  refine rx_cut1 (jpc := 17) (v := if (rv_Mod_isMobile m) = 0 then (-1) else (σ 77 m.toNatClampNeg)) (fun hk => ?_) ?_
  ·
    refine rx_if_eq C.1 (pc := 4) d_Mod_registered_4 (tgt := 16) rfl (fun h1 => ?_) (fun h1 => ?_)
    ·
      refine rx_iconst C.1 (v := (-1)) (pc := 16) d_Mod_registered_16 (by decide) ?_
      rw [if_pos h1] at hk
      exact hk
    ·
      have g1 := rm_Mod h1
      have j1 := rx_j2 g1
      refine rx_aload_n C.1 (pc := 7) d_Mod_registered_7 rfl ?_
      refine g_Mod_25 D b ca C (pc := 8) d_Mod_registered_8 ?_
      refine rx_iload_n C.1 (pc := 11) d_Mod_registered_11 rfl ?_
      refine rx_iald C (i := 77) (n := 2) (pc := 12) d_Mod_registered_12 (rx_lt (by decide)) rfl (by first | assumption | exact rx_in2 (by assumption) | exact rx_v02 | exact rx_v12 | exact vp_in_iff.mpr (by decide) | exact fa_in (by assumption) (by assumption) | exact fa_in (by assumption) rx_iM0 | exact fa_in (by assumption) rx_iM1) ?_
      refine rx_goto C.1 (pc := 13) d_Mod_registered_13 (tgt := 17) rfl ?_
      rw [if_neg h1] at hk
      exact hk
  exact rx_iret C (pc := 17) d_Mod_registered_17 (by first | rfl | (unfold rv_Mod_registered; rfl)) rfl

def rv_Mod_open (σ : rMem) (m : Int32) : Int32 := (if (rv_Mod_isMobile m) = 0 then 0 else (σ 81 m.toNatClampNeg) : Int32)
set_option maxHeartbeats 4000000 in
set_option maxRecDepth 100000 in
theorem c_Mod_open (l : Launch) (D : va_G) (b : Nat) (ca : Nat → ClassId) {σ : rMem} {m : Int32} : rx_C l (rx_fin D b ca) y_Mod_open b_Mod_open 2 (some .int) (rx_rm 1) [.ref (rg_A (rx_fin D b ca) 71), .int m] σ (some (.int (rv_Mod_open σ m))) σ := by
  refine rx_of (lo := [(0, .ref (rg_A (rx_fin D b ca) 71)), (1, .int m)]) (by decide) (rx_fin_D D b ca) rfl (Nat.le_of_ble_eq_true rfl) rfl ?_
  intro p e s mm below meth c C
  refine rx_iload_n C.1 (pc := 0) d_Mod_open_0 rfl ?_
  refine q_Mod_101 C.1 (pc := 1) d_Mod_open_1 (c_Mod_isMobile l ) ⟨Nat.le_of_ble_eq_true rfl, Nat.le_of_ble_eq_true rfl⟩ ⟨Nat.zero_le _, Nat.zero_le _⟩ (Nat.le_of_ble_eq_true rfl) ?_
  refine rx_cut1 (jpc := 17) (v := if (rv_Mod_isMobile m) = 0 then 0 else (σ 81 m.toNatClampNeg)) (fun hk => ?_) ?_
  ·
    refine rx_if_eq C.1 (pc := 4) d_Mod_open_4 (tgt := 16) rfl (fun h1 => ?_) (fun h1 => ?_)
    ·
      refine rx_iconst C.1 (v := 0) (pc := 16) d_Mod_open_16 (by decide) ?_
      rw [if_pos h1] at hk
      exact hk
    ·
      have g1 := rm_Mod h1
      have j1 := rx_j2 g1
      refine rx_aload_n C.1 (pc := 7) d_Mod_open_7 rfl ?_
      refine g_Mod_37 D b ca C (pc := 8) d_Mod_open_8 ?_
      refine rx_iload_n C.1 (pc := 11) d_Mod_open_11 rfl ?_
      refine rx_iald C (i := 81) (n := 2) (pc := 12) d_Mod_open_12 (rx_lt (by decide)) rfl (by first | assumption | exact rx_in2 (by assumption) | exact rx_v02 | exact rx_v12 | exact vp_in_iff.mpr (by decide) | exact fa_in (by assumption) (by assumption) | exact fa_in (by assumption) rx_iM0 | exact fa_in (by assumption) rx_iM1) ?_
      refine rx_goto C.1 (pc := 13) d_Mod_open_13 (tgt := 17) rfl ?_
      rw [if_neg h1] at hk
      exact hk
  exact rx_iret C (pc := 17) d_Mod_open_17 (by first | rfl | (unfold rv_Mod_open; rfl)) rfl

def rv_Mod_binding (σ : rMem) (m : Int32) : Int32 := (if (rv_Mod_isMobile m) = 0 then 0 else (if (σ 88 m.toNatClampNeg) ≤ (σ 71 3) then 0 else (((100 * (σ 87 m.toNatClampNeg)) + (σ 88 m.toNatClampNeg)) - (σ 71 3))) : Int32)
set_option maxHeartbeats 4000000 in
set_option maxRecDepth 100000 in
theorem c_Mod_binding (l : Launch) (D : va_G) (b : Nat) (ca : Nat → ClassId) {σ : rMem} {m : Int32} : rx_C l (rx_fin D b ca) y_Mod_binding b_Mod_binding 2 (some .int) (rx_rm 1) [.ref (rg_A (rx_fin D b ca) 71), .int m] σ (some (.int (rv_Mod_binding σ m))) σ := by
  refine rx_of (lo := [(0, .ref (rg_A (rx_fin D b ca) 71)), (1, .int m)]) (by decide) (rx_fin_D D b ca) rfl (Nat.le_of_ble_eq_true rfl) rfl ?_
  intro p e s mm below meth c C
  refine rx_iload_n C.1 (pc := 0) d_Mod_binding_0 rfl ?_
  refine q_Mod_101 C.1 (pc := 1) d_Mod_binding_1 (c_Mod_isMobile l ) ⟨Nat.le_of_ble_eq_true rfl, Nat.le_of_ble_eq_true rfl⟩ ⟨Nat.zero_le _, Nat.zero_le _⟩ (Nat.le_of_ble_eq_true rfl) ?_
  refine rx_cut1 (jpc := 45) (v := if (rv_Mod_isMobile m) = 0 then 0 else (if (σ 88 m.toNatClampNeg) ≤ (σ 71 3) then 0 else (((100 * (σ 87 m.toNatClampNeg)) + (σ 88 m.toNatClampNeg)) - (σ 71 3)))) (fun hk => ?_) ?_
  ·
    refine rx_if_eq C.1 (pc := 4) d_Mod_binding_4 (tgt := 44) rfl (fun h1 => ?_) (fun h1 => ?_)
    ·
      refine rx_iconst C.1 (v := 0) (pc := 44) d_Mod_binding_44 (by decide) ?_
      rw [if_pos h1] at hk
      exact hk
    ·
      have g1 := rm_Mod h1
      have j1 := rx_j2 g1
      refine rx_aload_n C.1 (pc := 7) d_Mod_binding_7 rfl ?_
      refine g_Mod_113 D b ca C (pc := 8) d_Mod_binding_8 ?_
      refine rx_aload_n C.1 (pc := 11) d_Mod_binding_11 rfl ?_
      refine g_Mod_58 D b ca C (pc := 12) d_Mod_binding_12 ?_
      refine rx_iload_n C.1 (pc := 15) d_Mod_binding_15 rfl ?_
      refine rx_iald C (i := 88) (n := 2) (pc := 16) d_Mod_binding_16 (rx_lt (by decide)) rfl (by first | assumption | exact rx_in2 (by assumption) | exact rx_v02 | exact rx_v12 | exact vp_in_iff.mpr (by decide) | exact fa_in (by assumption) (by assumption) | exact fa_in (by assumption) rx_iM0 | exact fa_in (by assumption) rx_iM1) ?_
      refine rx_icmp_ge C.1 (pc := 17) d_Mod_binding_17 (tgt := 44) rfl (fun h2 => ?_) (fun h2 => ?_)
      ·
        refine rx_iconst C.1 (v := 0) (pc := 44) d_Mod_binding_44 (by decide) ?_
        rw [if_neg h1, if_pos h2] at hk
        exact hk
      ·
        refine rx_bipush C.1 (v := 100) (pc := 20) d_Mod_binding_20 (by decide) ?_
        refine rx_aload_n C.1 (pc := 22) d_Mod_binding_22 rfl ?_
        refine g_Mod_55 D b ca C (pc := 23) d_Mod_binding_23 ?_
        refine rx_iload_n C.1 (pc := 26) d_Mod_binding_26 rfl ?_
        refine rx_iald C (i := 87) (n := 2) (pc := 27) d_Mod_binding_27 (rx_lt (by decide)) rfl (by first | assumption | exact rx_in2 (by assumption) | exact rx_v02 | exact rx_v12 | exact vp_in_iff.mpr (by decide) | exact fa_in (by assumption) (by assumption) | exact fa_in (by assumption) rx_iM0 | exact fa_in (by assumption) rx_iM1) ?_
        refine rx_imul C.1 (pc := 28) d_Mod_binding_28 ?_
        refine rx_aload_n C.1 (pc := 29) d_Mod_binding_29 rfl ?_
        refine g_Mod_58 D b ca C (pc := 30) d_Mod_binding_30 ?_
        refine rx_iload_n C.1 (pc := 33) d_Mod_binding_33 rfl ?_
        refine rx_iald C (i := 88) (n := 2) (pc := 34) d_Mod_binding_34 (rx_lt (by decide)) rfl (by first | assumption | exact rx_in2 (by assumption) | exact rx_v02 | exact rx_v12 | exact vp_in_iff.mpr (by decide) | exact fa_in (by assumption) (by assumption) | exact fa_in (by assumption) rx_iM0 | exact fa_in (by assumption) rx_iM1) ?_
        refine rx_iadd C.1 (pc := 35) d_Mod_binding_35 ?_
        refine rx_aload_n C.1 (pc := 36) d_Mod_binding_36 rfl ?_
        refine g_Mod_113 D b ca C (pc := 37) d_Mod_binding_37 ?_
        refine rx_isub C.1 (pc := 40) d_Mod_binding_40 ?_
        refine rx_goto C.1 (pc := 41) d_Mod_binding_41 (tgt := 45) rfl ?_
        rw [if_neg h1, if_neg h2] at hk
        exact hk
  exact rx_iret C (pc := 45) d_Mod_binding_45 (by first | rfl | (unfold rv_Mod_binding; rfl)) rfl

def rv_Mod_visit (σ : rMem) (a : Int32) (m : Int32) : Int32 := if (rv_Mod_isMobile m) = 0 then 0 else (if a < 1 then 0 else (if a ≤ 3 then (if ((σ 89 ((2 * a) + m).toNatClampNeg) - (σ 71 3)) ≤ 0 then 0 else ((σ 89 ((2 * a) + m).toNatClampNeg) - (σ 71 3)) : Int32) else 0))
set_option maxHeartbeats 4000000 in
set_option maxRecDepth 100000 in
theorem c_Mod_visit (l : Launch) (D : va_G) (b : Nat) (ca : Nat → ClassId) {σ : rMem} {a : Int32} {m : Int32} : rx_C l (rx_fin D b ca) y_Mod_visit b_Mod_visit 4 (some .int) (rx_rm 1) [.ref (rg_A (rx_fin D b ca) 71), .int a, .int m] σ (some (.int (rv_Mod_visit σ a m))) σ := by
  refine rx_of (lo := [(0, .ref (rg_A (rx_fin D b ca) 71)), (1, .int a), (2, .int m)]) (by decide) (rx_fin_D D b ca) rfl (Nat.le_of_ble_eq_true rfl) rfl ?_
  intro p e s mm below meth c C
  refine rx_iload_n C.1 (pc := 0) d_Mod_visit_0 rfl ?_
  refine q_Mod_101 C.1 (pc := 1) d_Mod_visit_1 (c_Mod_isMobile l ) ⟨Nat.le_of_ble_eq_true rfl, Nat.le_of_ble_eq_true rfl⟩ ⟨Nat.zero_le _, Nat.zero_le _⟩ (Nat.le_of_ble_eq_true rfl) ?_
  refine rx_if_eq C.1 (pc := 4) d_Mod_visit_4 (tgt := 17) rfl (fun h1 => ?_) (fun h1 => ?_)
  ·
    refine rx_iconst C.1 (v := 0) (pc := 17) d_Mod_visit_17 (by decide) ?_
    exact rx_iret C (pc := 18) d_Mod_visit_18 (by unfold rv_Mod_visit; first | (simp only [if_pos h1]; done) | (simp only [if_pos h1]; rfl)) rfl
  ·
    have g1 := rm_Mod h1
    have j1 := rx_j2 g1
    refine rx_iload_n C.1 (pc := 7) d_Mod_visit_7 rfl ?_
    refine rx_iconst C.1 (v := 1) (pc := 8) d_Mod_visit_8 (by decide) ?_
    refine rx_icmp_lt C.1 (pc := 9) d_Mod_visit_9 (tgt := 17) rfl (fun h2 => ?_) (fun h2 => ?_)
    ·
      refine rx_iconst C.1 (v := 0) (pc := 17) d_Mod_visit_17 (by decide) ?_
      exact rx_iret C (pc := 18) d_Mod_visit_18 (by unfold rv_Mod_visit; first | (simp only [if_neg h1, if_pos h2]; done) | (simp only [if_neg h1, if_pos h2]; rfl)) rfl
    ·
      refine rx_iload_n C.1 (pc := 12) d_Mod_visit_12 rfl ?_
      refine rx_iconst C.1 (v := 3) (pc := 13) d_Mod_visit_13 (by decide) ?_
      refine rx_icmp_le C.1 (pc := 14) d_Mod_visit_14 (tgt := 19) rfl (fun h3 => ?_) (fun h3 => ?_)
      ·
        refine rx_aload_n C.1 (pc := 19) d_Mod_visit_19 rfl ?_
        refine g_Mod_61 D b ca C (pc := 20) d_Mod_visit_20 ?_
        refine rx_iconst C.1 (v := 2) (pc := 23) d_Mod_visit_23 (by decide) ?_
        refine rx_iload_n C.1 (pc := 24) d_Mod_visit_24 rfl ?_
        refine rx_imul C.1 (pc := 25) d_Mod_visit_25 ?_
        refine rx_iload_n C.1 (pc := 26) d_Mod_visit_26 rfl ?_
        refine rx_iadd C.1 (pc := 27) d_Mod_visit_27 ?_
        refine rx_iald C (i := 89) (n := 8) (pc := 28) d_Mod_visit_28 (rx_lt (by decide)) rfl (vs_in h2 h3 g1) ?_
        refine rx_aload_n C.1 (pc := 29) d_Mod_visit_29 rfl ?_
        refine g_Mod_113 D b ca C (pc := 30) d_Mod_visit_30 ?_
        refine rx_isub C.1 (pc := 33) d_Mod_visit_33 ?_
        refine rx_istore_n C.1 (pc := 34) d_Mod_visit_34 (by decide) ?_
        refine rx_iload_n C.1 (pc := 35) d_Mod_visit_35 rfl ?_
        refine rx_cut1 (jpc := 44) (v := if ((σ 89 ((2 * a) + m).toNatClampNeg) - (σ 71 3)) ≤ 0 then 0 else ((σ 89 ((2 * a) + m).toNatClampNeg) - (σ 71 3))) (fun hk => ?_) ?_
        ·
          refine rx_if_le C.1 (pc := 36) d_Mod_visit_36 (tgt := 43) rfl (fun h4 => ?_) (fun h4 => ?_)
          ·
            refine rx_iconst C.1 (v := 0) (pc := 43) d_Mod_visit_43 (by decide) ?_
            rw [if_pos h4] at hk
            exact hk
          ·
            refine rx_iload_n C.1 (pc := 39) d_Mod_visit_39 rfl ?_
            refine rx_goto C.1 (pc := 40) d_Mod_visit_40 (tgt := 44) rfl ?_
            rw [if_neg h4] at hk
            exact hk
        exact rx_iret C (pc := 44) d_Mod_visit_44 (by unfold rv_Mod_visit; first | (simp only [if_neg h1, if_neg h2, if_pos h3]; done) | (simp only [if_neg h1, if_neg h2, if_pos h3]; rfl)) rfl
      ·
        refine rx_iconst C.1 (v := 0) (pc := 17) d_Mod_visit_17 (by decide) ?_
        exact rx_iret C (pc := 18) d_Mod_visit_18 (by unfold rv_Mod_visit; first | (simp only [if_neg h1, if_neg h2, if_neg h3]; done) | (simp only [if_neg h1, if_neg h2, if_neg h3]; rfl)) rfl

def rv_Mod_count (σ : rMem) (w : Int32) (m : Int32) : Int32 := if (rv_Mod_isMobile m) = 0 then (-1) else (if w < 0 then (-1) else (if w ≤ 3 then (if w = 0 then (σ 84 m.toNatClampNeg) else (if w = 1 then (σ 93 m.toNatClampNeg) else (if w = 2 then (σ 94 m.toNatClampNeg) else (σ 92 m.toNatClampNeg))) : Int32) else (-1)))
set_option maxHeartbeats 4000000 in
set_option maxRecDepth 100000 in
theorem c_Mod_count (l : Launch) (D : va_G) (b : Nat) (ca : Nat → ClassId) {σ : rMem} {w : Int32} {m : Int32} : rx_C l (rx_fin D b ca) y_Mod_count b_Mod_count 3 (some .int) (rx_rm 1) [.ref (rg_A (rx_fin D b ca) 71), .int w, .int m] σ (some (.int (rv_Mod_count σ w m))) σ := by
  refine rx_of (lo := [(0, .ref (rg_A (rx_fin D b ca) 71)), (1, .int w), (2, .int m)]) (by decide) (rx_fin_D D b ca) rfl (Nat.le_of_ble_eq_true rfl) rfl ?_
  intro p e s mm below meth c C
  refine rx_iload_n C.1 (pc := 0) d_Mod_count_0 rfl ?_
  refine q_Mod_101 C.1 (pc := 1) d_Mod_count_1 (c_Mod_isMobile l ) ⟨Nat.le_of_ble_eq_true rfl, Nat.le_of_ble_eq_true rfl⟩ ⟨Nat.zero_le _, Nat.zero_le _⟩ (Nat.le_of_ble_eq_true rfl) ?_
  refine rx_if_eq C.1 (pc := 4) d_Mod_count_4 (tgt := 16) rfl (fun h1 => ?_) (fun h1 => ?_)
  ·
    refine rx_iconst C.1 (v := (-1)) (pc := 16) d_Mod_count_16 (by decide) ?_
    exact rx_iret C (pc := 17) d_Mod_count_17 (by unfold rv_Mod_count; first | (simp only [if_pos h1]; done) | (simp only [if_pos h1]; rfl)) rfl
  ·
    have g1 := rm_Mod h1
    have j1 := rx_j2 g1
    refine rx_iload_n C.1 (pc := 7) d_Mod_count_7 rfl ?_
    refine rx_if_lt C.1 (pc := 8) d_Mod_count_8 (tgt := 16) rfl (fun h2 => ?_) (fun h2 => ?_)
    ·
      refine rx_iconst C.1 (v := (-1)) (pc := 16) d_Mod_count_16 (by decide) ?_
      exact rx_iret C (pc := 17) d_Mod_count_17 (by unfold rv_Mod_count; first | (simp only [if_neg h1, if_pos h2]; done) | (simp only [if_neg h1, if_pos h2]; rfl)) rfl
    ·
      refine rx_iload_n C.1 (pc := 11) d_Mod_count_11 rfl ?_
      refine rx_iconst C.1 (v := 3) (pc := 12) d_Mod_count_12 (by decide) ?_
      refine rx_icmp_le C.1 (pc := 13) d_Mod_count_13 (tgt := 18) rfl (fun h3 => ?_) (fun h3 => ?_)
      ·
        refine rx_iload_n C.1 (pc := 18) d_Mod_count_18 rfl ?_
        refine rx_cut1 (jpc := 65) (v := if w = 0 then (σ 84 m.toNatClampNeg) else (if w = 1 then (σ 93 m.toNatClampNeg) else (if w = 2 then (σ 94 m.toNatClampNeg) else (σ 92 m.toNatClampNeg)))) (fun hk => ?_) ?_
        ·
          refine rx_if_ne C.1 (pc := 19) d_Mod_count_19 (tgt := 31) rfl (fun h4 => ?_) (fun h4 => ?_)
          ·
            refine rx_iload_n C.1 (pc := 31) d_Mod_count_31 rfl ?_
            refine rx_iconst C.1 (v := 1) (pc := 32) d_Mod_count_32 (by decide) ?_
            refine rx_icmp_ne C.1 (pc := 33) d_Mod_count_33 (tgt := 45) rfl (fun h5 => ?_) (fun h5 => ?_)
            ·
              refine rx_iload_n C.1 (pc := 45) d_Mod_count_45 rfl ?_
              refine rx_iconst C.1 (v := 2) (pc := 46) d_Mod_count_46 (by decide) ?_
              refine rx_icmp_ne C.1 (pc := 47) d_Mod_count_47 (tgt := 59) rfl (fun h6 => ?_) (fun h6 => ?_)
              ·
                refine rx_aload_n C.1 (pc := 59) d_Mod_count_59 rfl ?_
                refine g_Mod_70 D b ca C (pc := 60) d_Mod_count_60 ?_
                refine rx_iload_n C.1 (pc := 63) d_Mod_count_63 rfl ?_
                refine rx_iald C (i := 92) (n := 2) (pc := 64) d_Mod_count_64 (rx_lt (by decide)) rfl (by first | assumption | exact rx_in2 (by assumption) | exact rx_v02 | exact rx_v12 | exact vp_in_iff.mpr (by decide) | exact fa_in (by assumption) (by assumption) | exact fa_in (by assumption) rx_iM0 | exact fa_in (by assumption) rx_iM1) ?_
                rw [if_neg h4, if_neg h5, if_neg h6] at hk
                exact hk
              ·
                refine rx_aload_n C.1 (pc := 50) d_Mod_count_50 rfl ?_
                refine g_Mod_76 D b ca C (pc := 51) d_Mod_count_51 ?_
                refine rx_iload_n C.1 (pc := 54) d_Mod_count_54 rfl ?_
                refine rx_iald C (i := 94) (n := 2) (pc := 55) d_Mod_count_55 (rx_lt (by decide)) rfl (by first | assumption | exact rx_in2 (by assumption) | exact rx_v02 | exact rx_v12 | exact vp_in_iff.mpr (by decide) | exact fa_in (by assumption) (by assumption) | exact fa_in (by assumption) rx_iM0 | exact fa_in (by assumption) rx_iM1) ?_
                refine rx_goto C.1 (pc := 56) d_Mod_count_56 (tgt := 65) rfl ?_
                rw [if_neg h4, if_neg h5, if_pos h6] at hk
                exact hk
            ·
              refine rx_aload_n C.1 (pc := 36) d_Mod_count_36 rfl ?_
              refine g_Mod_73 D b ca C (pc := 37) d_Mod_count_37 ?_
              refine rx_iload_n C.1 (pc := 40) d_Mod_count_40 rfl ?_
              refine rx_iald C (i := 93) (n := 2) (pc := 41) d_Mod_count_41 (rx_lt (by decide)) rfl (by first | assumption | exact rx_in2 (by assumption) | exact rx_v02 | exact rx_v12 | exact vp_in_iff.mpr (by decide) | exact fa_in (by assumption) (by assumption) | exact fa_in (by assumption) rx_iM0 | exact fa_in (by assumption) rx_iM1) ?_
              refine rx_goto C.1 (pc := 42) d_Mod_count_42 (tgt := 65) rfl ?_
              rw [if_neg h4, if_pos h5] at hk
              exact hk
          ·
            refine rx_aload_n C.1 (pc := 22) d_Mod_count_22 rfl ?_
            refine g_Mod_46 D b ca C (pc := 23) d_Mod_count_23 ?_
            refine rx_iload_n C.1 (pc := 26) d_Mod_count_26 rfl ?_
            refine rx_iald C (i := 84) (n := 2) (pc := 27) d_Mod_count_27 (rx_lt (by decide)) rfl (by first | assumption | exact rx_in2 (by assumption) | exact rx_v02 | exact rx_v12 | exact vp_in_iff.mpr (by decide) | exact fa_in (by assumption) (by assumption) | exact fa_in (by assumption) rx_iM0 | exact fa_in (by assumption) rx_iM1) ?_
            refine rx_goto C.1 (pc := 28) d_Mod_count_28 (tgt := 65) rfl ?_
            rw [if_pos h4] at hk
            exact hk
        exact rx_iret C (pc := 65) d_Mod_count_65 (by unfold rv_Mod_count; first | (simp only [if_neg h1, if_neg h2, if_pos h3]; done) | (simp only [if_neg h1, if_neg h2, if_pos h3]; rfl)) rfl
      ·
        refine rx_iconst C.1 (v := (-1)) (pc := 16) d_Mod_count_16 (by decide) ?_
        exact rx_iret C (pc := 17) d_Mod_count_17 (by unfold rv_Mod_count; first | (simp only [if_neg h1, if_neg h2, if_neg h3]; done) | (simp only [if_neg h1, if_neg h2, if_neg h3]; rfl)) rfl
