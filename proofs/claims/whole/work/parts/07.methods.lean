def rv_Net_isWithin (x : Int32) (lo : Int32) (hi : Int32) : Int32 := if x < lo then 0 else (if hi < x then 0 else 1)
set_option maxHeartbeats 4000000 in
set_option maxRecDepth 100000 in
theorem c_Net_isWithin (l : Launch) {x : Int32} {lo : Int32} {hi : Int32} : rx_S l y_Net_isWithin b_Net_isWithin 3 (some .boolean) (rx_rm 0) [.int x, .int lo, .int hi] (.int (rv_Net_isWithin x lo hi)) := by
  refine rx_ofS (lo := [(0, .int x), (1, .int lo), (2, .int hi)]) (by decide) rfl (Nat.le_of_ble_eq_true rfl) rfl ?_
  intro p e s m below meth c C0
  have C := And.intro C0 True.intro
  refine rx_iload_n C.1 (pc := 0) d_Net_isWithin_0 rfl ?_
  refine rx_iload_n C.1 (pc := 1) d_Net_isWithin_1 rfl ?_
  refine rx_icmp_lt C.1 (pc := 2) d_Net_isWithin_2 (tgt := 14) rfl (fun h1 => ?_) (fun h1 => ?_)
  ·
    refine rx_iconst C.1 (v := 0) (pc := 14) d_Net_isWithin_14 (by decide) ?_
    exact rx_zretS C.1 (pc := 15) d_Net_isWithin_15 (Or.inl rfl) (by unfold rv_Net_isWithin; first | (simp only [if_pos h1]; done) | (simp only [if_pos h1]; rfl)) 
  ·
    refine rx_iload_n C.1 (pc := 5) d_Net_isWithin_5 rfl ?_
    refine rx_iload_n C.1 (pc := 6) d_Net_isWithin_6 rfl ?_
    refine rx_icmp_gt C.1 (pc := 7) d_Net_isWithin_7 (tgt := 14) rfl (fun h2 => ?_) (fun h2 => ?_)
    ·
      refine rx_iconst C.1 (v := 0) (pc := 14) d_Net_isWithin_14 (by decide) ?_
      exact rx_zretS C.1 (pc := 15) d_Net_isWithin_15 (Or.inl rfl) (by unfold rv_Net_isWithin; first | (simp only [if_neg h1, if_pos h2]; done) | (simp only [if_neg h1, if_pos h2]; rfl)) 
    ·
      refine rx_iconst C.1 (v := 1) (pc := 10) d_Net_isWithin_10 (by decide) ?_
      refine rx_goto C.1 (pc := 11) d_Net_isWithin_11 (tgt := 15) rfl ?_
      exact rx_zretS C.1 (pc := 15) d_Net_isWithin_15 (Or.inr rfl) (by unfold rv_Net_isWithin; first | (simp only [if_neg h1, if_neg h2]; done) | (simp only [if_neg h1, if_neg h2]; rfl)) 

theorem rz_Net_isWithin (x lo hi : Int32) : rv_Net_isWithin x lo hi = 0 ∨ rv_Net_isWithin x lo hi = 1 := by
  unfold rv_Net_isWithin
  by_cases h1 : x < lo
  · exact Or.inl (if_pos h1)
  · rw [if_neg h1]
    by_cases h2 : hi < x
    · exact Or.inl (if_pos h2)
    · exact Or.inr (if_neg h2)
def rv_Net_isMobile (m : Int32) : Int32 := (rv_Net_isWithin m 0 1)
set_option maxHeartbeats 4000000 in
set_option maxRecDepth 100000 in
theorem c_Net_isMobile (l : Launch) {m : Int32} : rx_S l y_Net_isMobile b_Net_isMobile 1 (some .boolean) (rx_rm 1) [.int m] (.int (rv_Net_isMobile m)) := by
  refine rx_ofS (lo := [(0, .int m)]) (by decide) rfl (Nat.le_of_ble_eq_true rfl) rfl ?_
  intro p e s m below meth c C0
  have C := And.intro C0 True.intro
  refine rx_iload_n C.1 (pc := 0) d_Net_isMobile_0 rfl ?_
  refine rx_iconst C.1 (v := 0) (pc := 1) d_Net_isMobile_1 (by decide) ?_
  refine rx_iconst C.1 (v := 1) (pc := 2) d_Net_isMobile_2 (by decide) ?_
  refine q_Net_11 C.1 (pc := 3) d_Net_isMobile_3 (c_Net_isWithin l ) ⟨Nat.le_of_ble_eq_true rfl, Nat.le_of_ble_eq_true rfl⟩ ⟨Nat.zero_le _, Nat.zero_le _⟩ (Nat.le_of_ble_eq_true rfl) ?_
  exact rx_zretS C.1 (pc := 6) d_Net_isMobile_6 (rz_Net_isWithin _ _ _) (by first | rfl | (unfold rv_Net_isMobile; rfl)) 
theorem rm_Net {m : Int32} (h : ¬ rv_Net_isMobile m = 0) : rx_iM m := by
  unfold rv_Net_isMobile rv_Net_isWithin at h
  by_cases h1 : m < 0
  · rw [if_pos h1] at h
    exact absurd rfl h
  · rw [if_neg h1] at h
    by_cases h2 : 1 < m
    · rw [if_pos h2] at h
      exact absurd rfl h
    · rw [rx_ltI] at h1 h2
      rw [rx_I0] at h1
      rw [rx_I1] at h2
      exact ⟨by omega, by omega⟩

def rv_Net_isAgent (m : Int32) : Int32 := (rv_Net_isWithin m 0 3)
set_option maxHeartbeats 4000000 in
set_option maxRecDepth 100000 in
theorem c_Net_isAgent (l : Launch) {m : Int32} : rx_S l y_Net_isAgent b_Net_isAgent 1 (some .boolean) (rx_rm 1) [.int m] (.int (rv_Net_isAgent m)) := by
  refine rx_ofS (lo := [(0, .int m)]) (by decide) rfl (Nat.le_of_ble_eq_true rfl) rfl ?_
  intro p e s m below meth c C0
  have C := And.intro C0 True.intro
  refine rx_iload_n C.1 (pc := 0) d_Net_isAgent_0 rfl ?_
  refine rx_iconst C.1 (v := 0) (pc := 1) d_Net_isAgent_1 (by decide) ?_
  refine rx_iconst C.1 (v := 3) (pc := 2) d_Net_isAgent_2 (by decide) ?_
  refine q_Net_11 C.1 (pc := 3) d_Net_isAgent_3 (c_Net_isWithin l ) ⟨Nat.le_of_ble_eq_true rfl, Nat.le_of_ble_eq_true rfl⟩ ⟨Nat.zero_le _, Nat.zero_le _⟩ (Nat.le_of_ble_eq_true rfl) ?_
  exact rx_zretS C.1 (pc := 6) d_Net_isAgent_6 (rz_Net_isWithin _ _ _) (by first | rfl | (unfold rv_Net_isAgent; rfl)) 

def rv_Msg_stir (h : Int32) (x : Int32) : Int32 := (((h ^^^ x) * 16777619) ^^^ (((h ^^^ x) * 16777619).toUInt32 >>> ((15 : Int32).toUInt32 &&& Int32.toUInt32 31)).toInt32)
set_option maxHeartbeats 4000000 in
set_option maxRecDepth 100000 in
theorem c_Msg_stir (l : Launch) {h : Int32} {x : Int32} : rx_S l y_Msg_stir b_Msg_stir 3 (some .int) (rx_rm 0) [.int h, .int x] (.int (rv_Msg_stir h x)) := by
  refine rx_ofS (lo := [(0, .int h), (1, .int x)]) (by decide) rfl (Nat.le_of_ble_eq_true rfl) rfl ?_
  intro p e s m below meth c C0
  have C := And.intro C0 True.intro
  refine rx_iload_n C.1 (pc := 0) d_Msg_stir_0 rfl ?_
  refine rx_iload_n C.1 (pc := 1) d_Msg_stir_1 rfl ?_
  refine rx_ixor C.1 (pc := 2) d_Msg_stir_2 ?_
  refine rx_ldc C.1 (v := 16777619) k_Msg_45 (pc := 3) d_Msg_stir_3 ?_
  refine rx_imul C.1 (pc := 5) d_Msg_stir_5 ?_
  refine rx_istore_n C.1 (pc := 6) d_Msg_stir_6 (by decide) ?_
  refine rx_iload_n C.1 (pc := 7) d_Msg_stir_7 rfl ?_
  refine rx_iload_n C.1 (pc := 8) d_Msg_stir_8 rfl ?_
  refine rx_bipush C.1 (v := 15) (pc := 9) d_Msg_stir_9 (by decide) ?_
  refine rx_iushr C.1 (pc := 11) d_Msg_stir_11 rfl ?_
  refine rx_ixor C.1 (pc := 12) d_Msg_stir_12 ?_
  exact rx_iretS C.1 (pc := 13) d_Msg_stir_13 (by first | rfl | (unfold rv_Msg_stir; rfl)) 

def sp_Msg_begin (σ : rMem) (q : Nat) (kd : Int32) (tg : Int32) (mo : Int32) (nu : Int32) : rMem := let m1 := rx_wr σ q 0 kd; let m2 := rx_wr m1 q 1 tg; let m3 := rx_wr m2 q 3 mo; let m4 := rx_wr m3 q 4 nu; let m5 := rx_wr m4 q 2 (-1); let m6 := rx_wr m5 q 5 0; let m7 := rx_wr m6 q 6 0; let m8 := rx_wr m7 q 7 0; let m9 := rx_wr m8 q 8 0; m9
set_option maxHeartbeats 4000000 in
set_option maxRecDepth 100000 in
theorem c_Msg_begin (l : Launch) (D : va_G) (b : Nat) (ca : Nat → ClassId) {σ : rMem} {q : Nat} (hq : 3 ≤ q ∧ q < 45) {kd : Int32} {tg : Int32} {mo : Int32} {nu : Int32} : rx_C l (rx_fin D b ca) y_Msg_begin b_Msg_begin 5 none (rx_rm 0) [.ref (rg_A (rx_fin D b ca) q), .int kd, .int tg, .int mo, .int nu] σ none (sp_Msg_begin σ q kd tg mo nu) := by
  refine rx_of (lo := [(0, .ref (rg_A (rx_fin D b ca) q)), (1, .int kd), (2, .int tg), (3, .int mo), (4, .int nu)]) (by decide) (rx_fin_D D b ca) rfl (Nat.le_of_ble_eq_true rfl) rfl ?_
  intro p e s m below meth c C
  refine rx_aload_n C.1 (pc := 0) d_Msg_begin_0 rfl ?_
  refine rx_iload_n C.1 (pc := 1) d_Msg_begin_1 rfl ?_
  refine p_Msg_9 D b ca C (by first | assumption | (constructor <;> omega) | omega) (pc := 2) d_Msg_begin_2 ?_
  refine rx_aload_n C.1 (pc := 5) d_Msg_begin_5 rfl ?_
  refine rx_iload_n C.1 (pc := 6) d_Msg_begin_6 rfl ?_
  refine p_Msg_15 D b ca C (by first | assumption | (constructor <;> omega) | omega) (pc := 7) d_Msg_begin_7 ?_
  refine rx_aload_n C.1 (pc := 10) d_Msg_begin_10 rfl ?_
  refine rx_iload_n C.1 (pc := 11) d_Msg_begin_11 rfl ?_
  refine p_Msg_18 D b ca C (by first | assumption | (constructor <;> omega) | omega) (pc := 12) d_Msg_begin_12 ?_
  refine rx_aload_n C.1 (pc := 15) d_Msg_begin_15 rfl ?_
  refine rx_iload C.1 (pc := 16) d_Msg_begin_16 rfl ?_
  refine p_Msg_21 D b ca C (by first | assumption | (constructor <;> omega) | omega) (pc := 18) d_Msg_begin_18 ?_
  refine rx_aload_n C.1 (pc := 21) d_Msg_begin_21 rfl ?_
  refine rx_iconst C.1 (v := (-1)) (pc := 22) d_Msg_begin_22 (by decide) ?_
  refine p_Msg_24 D b ca C (by first | assumption | (constructor <;> omega) | omega) (pc := 23) d_Msg_begin_23 ?_
  refine rx_aload_n C.1 (pc := 26) d_Msg_begin_26 rfl ?_
  refine rx_iconst C.1 (v := 0) (pc := 27) d_Msg_begin_27 (by decide) ?_
  refine p_Msg_27 D b ca C (by first | assumption | (constructor <;> omega) | omega) (pc := 28) d_Msg_begin_28 ?_
  refine rx_aload_n C.1 (pc := 31) d_Msg_begin_31 rfl ?_
  refine rx_iconst C.1 (v := 0) (pc := 32) d_Msg_begin_32 (by decide) ?_
  refine p_Msg_30 D b ca C (by first | assumption | (constructor <;> omega) | omega) (pc := 33) d_Msg_begin_33 ?_
  refine rx_aload_n C.1 (pc := 36) d_Msg_begin_36 rfl ?_
  refine rx_iconst C.1 (v := 0) (pc := 37) d_Msg_begin_37 (by decide) ?_
  refine p_Msg_33 D b ca C (by first | assumption | (constructor <;> omega) | omega) (pc := 38) d_Msg_begin_38 ?_
  refine rx_aload_n C.1 (pc := 41) d_Msg_begin_41 rfl ?_
  refine rx_iconst C.1 (v := 0) (pc := 42) d_Msg_begin_42 (by decide) ?_
  refine p_Msg_36 D b ca C (by first | assumption | (constructor <;> omega) | omega) (pc := 43) d_Msg_begin_43 ?_
  exact rx_vret C (pc := 46) d_Msg_begin_46 (by first | rfl | (unfold sp_Msg_begin; rfl))

def sp_Msg_copyFrom (σ : rMem) (q : Nat) (r : Nat) : rMem := let m1 := rx_wr σ q 0 (σ r 0); let m2 := rx_wr m1 q 1 (m1 r 1); let m3 := rx_wr m2 q 2 (m2 r 2); let m4 := rx_wr m3 q 3 (m3 r 3); let m5 := rx_wr m4 q 4 (m4 r 4); let m6 := rx_wr m5 q 5 (m5 r 5); let m7 := rx_wr m6 q 6 (m6 r 6); let m8 := rx_wr m7 q 7 (m7 r 7); let m9 := rx_wr m8 q 8 (m8 r 8); m9
set_option maxHeartbeats 4000000 in
set_option maxRecDepth 100000 in
theorem c_Msg_copyFrom (l : Launch) (D : va_G) (b : Nat) (ca : Nat → ClassId) {σ : rMem} {q : Nat} (hq : 3 ≤ q ∧ q < 45) {r : Nat} (hr : 3 ≤ r ∧ r < 45) : rx_C l (rx_fin D b ca) y_Msg_copyFrom b_Msg_copyFrom 2 none (rx_rm 0) [.ref (rg_A (rx_fin D b ca) q), .ref (rg_A (rx_fin D b ca) r)] σ none (sp_Msg_copyFrom σ q r) := by
  refine rx_of (lo := [(0, .ref (rg_A (rx_fin D b ca) q)), (1, .ref (rg_A (rx_fin D b ca) r))]) (by decide) (rx_fin_D D b ca) rfl (Nat.le_of_ble_eq_true rfl) rfl ?_
  intro p e s m below meth c C
  refine rx_aload_n C.1 (pc := 0) d_Msg_copyFrom_0 rfl ?_
  refine rx_aload_n C.1 (pc := 1) d_Msg_copyFrom_1 rfl ?_
  refine g_Msg_9 D b ca C (by first | assumption | (constructor <;> omega) | omega) (pc := 2) d_Msg_copyFrom_2 ?_
  refine p_Msg_9 D b ca C (by first | assumption | (constructor <;> omega) | omega) (pc := 5) d_Msg_copyFrom_5 ?_
  refine rx_aload_n C.1 (pc := 8) d_Msg_copyFrom_8 rfl ?_
  refine rx_aload_n C.1 (pc := 9) d_Msg_copyFrom_9 rfl ?_
  refine g_Msg_15 D b ca C (by first | assumption | (constructor <;> omega) | omega) (pc := 10) d_Msg_copyFrom_10 ?_
  refine p_Msg_15 D b ca C (by first | assumption | (constructor <;> omega) | omega) (pc := 13) d_Msg_copyFrom_13 ?_
  refine rx_aload_n C.1 (pc := 16) d_Msg_copyFrom_16 rfl ?_
  refine rx_aload_n C.1 (pc := 17) d_Msg_copyFrom_17 rfl ?_
  refine g_Msg_24 D b ca C (by first | assumption | (constructor <;> omega) | omega) (pc := 18) d_Msg_copyFrom_18 ?_
  refine p_Msg_24 D b ca C (by first | assumption | (constructor <;> omega) | omega) (pc := 21) d_Msg_copyFrom_21 ?_
  refine rx_aload_n C.1 (pc := 24) d_Msg_copyFrom_24 rfl ?_
  refine rx_aload_n C.1 (pc := 25) d_Msg_copyFrom_25 rfl ?_
  refine g_Msg_18 D b ca C (by first | assumption | (constructor <;> omega) | omega) (pc := 26) d_Msg_copyFrom_26 ?_
  refine p_Msg_18 D b ca C (by first | assumption | (constructor <;> omega) | omega) (pc := 29) d_Msg_copyFrom_29 ?_
  refine rx_aload_n C.1 (pc := 32) d_Msg_copyFrom_32 rfl ?_
  refine rx_aload_n C.1 (pc := 33) d_Msg_copyFrom_33 rfl ?_
  refine g_Msg_21 D b ca C (by first | assumption | (constructor <;> omega) | omega) (pc := 34) d_Msg_copyFrom_34 ?_
  refine p_Msg_21 D b ca C (by first | assumption | (constructor <;> omega) | omega) (pc := 37) d_Msg_copyFrom_37 ?_
  refine rx_aload_n C.1 (pc := 40) d_Msg_copyFrom_40 rfl ?_
  refine rx_aload_n C.1 (pc := 41) d_Msg_copyFrom_41 rfl ?_
  refine g_Msg_27 D b ca C (by first | assumption | (constructor <;> omega) | omega) (pc := 42) d_Msg_copyFrom_42 ?_
  refine p_Msg_27 D b ca C (by first | assumption | (constructor <;> omega) | omega) (pc := 45) d_Msg_copyFrom_45 ?_
  refine rx_aload_n C.1 (pc := 48) d_Msg_copyFrom_48 rfl ?_
  refine rx_aload_n C.1 (pc := 49) d_Msg_copyFrom_49 rfl ?_
  refine g_Msg_30 D b ca C (by first | assumption | (constructor <;> omega) | omega) (pc := 50) d_Msg_copyFrom_50 ?_
  refine p_Msg_30 D b ca C (by first | assumption | (constructor <;> omega) | omega) (pc := 53) d_Msg_copyFrom_53 ?_
  refine rx_aload_n C.1 (pc := 56) d_Msg_copyFrom_56 rfl ?_
  refine rx_aload_n C.1 (pc := 57) d_Msg_copyFrom_57 rfl ?_
  refine g_Msg_33 D b ca C (by first | assumption | (constructor <;> omega) | omega) (pc := 58) d_Msg_copyFrom_58 ?_
  refine p_Msg_33 D b ca C (by first | assumption | (constructor <;> omega) | omega) (pc := 61) d_Msg_copyFrom_61 ?_
  refine rx_aload_n C.1 (pc := 64) d_Msg_copyFrom_64 rfl ?_
  refine rx_aload_n C.1 (pc := 65) d_Msg_copyFrom_65 rfl ?_
  refine g_Msg_36 D b ca C (by first | assumption | (constructor <;> omega) | omega) (pc := 66) d_Msg_copyFrom_66 ?_
  refine p_Msg_36 D b ca C (by first | assumption | (constructor <;> omega) | omega) (pc := 69) d_Msg_copyFrom_69 ?_
  exact rx_vret C (pc := 72) d_Msg_copyFrom_72 (by first | rfl | (unfold sp_Msg_copyFrom; rfl))

def rv_Msg_summary (σ : rMem) (q : Nat) : Int32 := ((((1000000 * (σ q 0)) + (100000 * (σ q 1))) + (10000 * (σ q 3))) + (σ q 4))
set_option maxHeartbeats 4000000 in
set_option maxRecDepth 100000 in
theorem c_Msg_summary (l : Launch) (D : va_G) (b : Nat) (ca : Nat → ClassId) {σ : rMem} {q : Nat} (hq : 3 ≤ q ∧ q < 45) : rx_C l (rx_fin D b ca) y_Msg_summary b_Msg_summary 1 (some .int) (rx_rm 0) [.ref (rg_A (rx_fin D b ca) q)] σ (some (.int (rv_Msg_summary σ q))) σ := by
  refine rx_of (lo := [(0, .ref (rg_A (rx_fin D b ca) q))]) (by decide) (rx_fin_D D b ca) rfl (Nat.le_of_ble_eq_true rfl) rfl ?_
  intro p e s m below meth c C
  refine rx_ldc C.1 (v := 1000000) k_Msg_39 (pc := 0) d_Msg_summary_0 ?_
  refine rx_aload_n C.1 (pc := 2) d_Msg_summary_2 rfl ?_
  refine g_Msg_9 D b ca C (by first | assumption | (constructor <;> omega) | omega) (pc := 3) d_Msg_summary_3 ?_
  refine rx_imul C.1 (pc := 6) d_Msg_summary_6 ?_
  refine rx_ldc C.1 (v := 100000) k_Msg_40 (pc := 7) d_Msg_summary_7 ?_
  refine rx_aload_n C.1 (pc := 9) d_Msg_summary_9 rfl ?_
  refine g_Msg_15 D b ca C (by first | assumption | (constructor <;> omega) | omega) (pc := 10) d_Msg_summary_10 ?_
  refine rx_imul C.1 (pc := 13) d_Msg_summary_13 ?_
  refine rx_iadd C.1 (pc := 14) d_Msg_summary_14 ?_
  refine rx_sipush C.1 (v := 10000) (pc := 15) d_Msg_summary_15 (by decide) ?_
  refine rx_aload_n C.1 (pc := 18) d_Msg_summary_18 rfl ?_
  refine g_Msg_18 D b ca C (by first | assumption | (constructor <;> omega) | omega) (pc := 19) d_Msg_summary_19 ?_
  refine rx_imul C.1 (pc := 22) d_Msg_summary_22 ?_
  refine rx_iadd C.1 (pc := 23) d_Msg_summary_23 ?_
  refine rx_aload_n C.1 (pc := 24) d_Msg_summary_24 rfl ?_
  refine g_Msg_21 D b ca C (by first | assumption | (constructor <;> omega) | omega) (pc := 25) d_Msg_summary_25 ?_
  refine rx_iadd C.1 (pc := 28) d_Msg_summary_28 ?_
  exact rx_iret C (pc := 29) d_Msg_summary_29 (by first | rfl | (unfold rv_Msg_summary; rfl)) rfl

def rv_Msg_requestSeal (σ : rMem) (q : Nat) (h : Int32) : Int32 := (rv_Msg_stir (rv_Msg_stir (rv_Msg_stir (rv_Msg_stir (rv_Msg_stir h 2) (σ q 3)) (σ q 5)) (σ q 7)) (σ q 4))
set_option maxHeartbeats 4000000 in
set_option maxRecDepth 100000 in
theorem c_Msg_requestSeal (l : Launch) (D : va_G) (b : Nat) (ca : Nat → ClassId) {σ : rMem} {q : Nat} (hq : 3 ≤ q ∧ q < 45) {h : Int32} : rx_C l (rx_fin D b ca) y_Msg_requestSeal b_Msg_requestSeal 3 (some .int) (rx_rm 1) [.ref (rg_A (rx_fin D b ca) q), .int h] σ (some (.int (rv_Msg_requestSeal σ q h))) σ := by
  refine rx_of (lo := [(0, .ref (rg_A (rx_fin D b ca) q)), (1, .int h)]) (by decide) (rx_fin_D D b ca) rfl (Nat.le_of_ble_eq_true rfl) rfl ?_
  intro p e s m below meth c C
  refine rx_iload_n C.1 (pc := 0) d_Msg_requestSeal_0 rfl ?_
  refine rx_iconst C.1 (v := 2) (pc := 1) d_Msg_requestSeal_1 (by decide) ?_
  refine q_Msg_41 C.1 (pc := 2) d_Msg_requestSeal_2 (c_Msg_stir l ) ⟨Nat.le_of_ble_eq_true rfl, Nat.le_of_ble_eq_true rfl⟩ ⟨Nat.zero_le _, Nat.zero_le _⟩ (Nat.le_of_ble_eq_true rfl) ?_
  refine rx_istore_n C.1 (pc := 5) d_Msg_requestSeal_5 (by decide) ?_
  refine rx_iload_n C.1 (pc := 6) d_Msg_requestSeal_6 rfl ?_
  refine rx_aload_n C.1 (pc := 7) d_Msg_requestSeal_7 rfl ?_
  refine g_Msg_18 D b ca C (by first | assumption | (constructor <;> omega) | omega) (pc := 8) d_Msg_requestSeal_8 ?_
  refine q_Msg_41 C.1 (pc := 11) d_Msg_requestSeal_11 (c_Msg_stir l ) ⟨Nat.le_of_ble_eq_true rfl, Nat.le_of_ble_eq_true rfl⟩ ⟨Nat.zero_le _, Nat.zero_le _⟩ (Nat.le_of_ble_eq_true rfl) ?_
  refine rx_istore_n C.1 (pc := 14) d_Msg_requestSeal_14 (by decide) ?_
  refine rx_iload_n C.1 (pc := 15) d_Msg_requestSeal_15 rfl ?_
  refine rx_aload_n C.1 (pc := 16) d_Msg_requestSeal_16 rfl ?_
  refine g_Msg_27 D b ca C (by first | assumption | (constructor <;> omega) | omega) (pc := 17) d_Msg_requestSeal_17 ?_
  refine q_Msg_41 C.1 (pc := 20) d_Msg_requestSeal_20 (c_Msg_stir l ) ⟨Nat.le_of_ble_eq_true rfl, Nat.le_of_ble_eq_true rfl⟩ ⟨Nat.zero_le _, Nat.zero_le _⟩ (Nat.le_of_ble_eq_true rfl) ?_
  refine rx_istore_n C.1 (pc := 23) d_Msg_requestSeal_23 (by decide) ?_
  refine rx_iload_n C.1 (pc := 24) d_Msg_requestSeal_24 rfl ?_
  refine rx_aload_n C.1 (pc := 25) d_Msg_requestSeal_25 rfl ?_
  refine g_Msg_33 D b ca C (by first | assumption | (constructor <;> omega) | omega) (pc := 26) d_Msg_requestSeal_26 ?_
  refine q_Msg_41 C.1 (pc := 29) d_Msg_requestSeal_29 (c_Msg_stir l ) ⟨Nat.le_of_ble_eq_true rfl, Nat.le_of_ble_eq_true rfl⟩ ⟨Nat.zero_le _, Nat.zero_le _⟩ (Nat.le_of_ble_eq_true rfl) ?_
  refine rx_istore_n C.1 (pc := 32) d_Msg_requestSeal_32 (by decide) ?_
  refine rx_iload_n C.1 (pc := 33) d_Msg_requestSeal_33 rfl ?_
  refine rx_aload_n C.1 (pc := 34) d_Msg_requestSeal_34 rfl ?_
  refine g_Msg_21 D b ca C (by first | assumption | (constructor <;> omega) | omega) (pc := 35) d_Msg_requestSeal_35 ?_
  refine q_Msg_41 C.1 (pc := 38) d_Msg_requestSeal_38 (c_Msg_stir l ) ⟨Nat.le_of_ble_eq_true rfl, Nat.le_of_ble_eq_true rfl⟩ ⟨Nat.zero_le _, Nat.zero_le _⟩ (Nat.le_of_ble_eq_true rfl) ?_
  exact rx_iret C (pc := 41) d_Msg_requestSeal_41 (by first | rfl | (unfold rv_Msg_requestSeal; rfl)) rfl

def rv_Msg_replySeal (σ : rMem) (q : Nat) (h : Int32) : Int32 := (rv_Msg_stir (rv_Msg_stir (rv_Msg_stir (rv_Msg_stir (rv_Msg_stir (rv_Msg_stir h 3) (σ q 3)) (σ q 5)) (σ q 6)) (σ q 7)) (σ q 4))
set_option maxHeartbeats 4000000 in
set_option maxRecDepth 100000 in
theorem c_Msg_replySeal (l : Launch) (D : va_G) (b : Nat) (ca : Nat → ClassId) {σ : rMem} {q : Nat} (hq : 3 ≤ q ∧ q < 45) {h : Int32} : rx_C l (rx_fin D b ca) y_Msg_replySeal b_Msg_replySeal 3 (some .int) (rx_rm 1) [.ref (rg_A (rx_fin D b ca) q), .int h] σ (some (.int (rv_Msg_replySeal σ q h))) σ := by
  refine rx_of (lo := [(0, .ref (rg_A (rx_fin D b ca) q)), (1, .int h)]) (by decide) (rx_fin_D D b ca) rfl (Nat.le_of_ble_eq_true rfl) rfl ?_
  intro p e s m below meth c C
  refine rx_iload_n C.1 (pc := 0) d_Msg_replySeal_0 rfl ?_
  refine rx_iconst C.1 (v := 3) (pc := 1) d_Msg_replySeal_1 (by decide) ?_
  refine q_Msg_41 C.1 (pc := 2) d_Msg_replySeal_2 (c_Msg_stir l ) ⟨Nat.le_of_ble_eq_true rfl, Nat.le_of_ble_eq_true rfl⟩ ⟨Nat.zero_le _, Nat.zero_le _⟩ (Nat.le_of_ble_eq_true rfl) ?_
  refine rx_istore_n C.1 (pc := 5) d_Msg_replySeal_5 (by decide) ?_
  refine rx_iload_n C.1 (pc := 6) d_Msg_replySeal_6 rfl ?_
  refine rx_aload_n C.1 (pc := 7) d_Msg_replySeal_7 rfl ?_
  refine g_Msg_18 D b ca C (by first | assumption | (constructor <;> omega) | omega) (pc := 8) d_Msg_replySeal_8 ?_
  refine q_Msg_41 C.1 (pc := 11) d_Msg_replySeal_11 (c_Msg_stir l ) ⟨Nat.le_of_ble_eq_true rfl, Nat.le_of_ble_eq_true rfl⟩ ⟨Nat.zero_le _, Nat.zero_le _⟩ (Nat.le_of_ble_eq_true rfl) ?_
  refine rx_istore_n C.1 (pc := 14) d_Msg_replySeal_14 (by decide) ?_
  refine rx_iload_n C.1 (pc := 15) d_Msg_replySeal_15 rfl ?_
  refine rx_aload_n C.1 (pc := 16) d_Msg_replySeal_16 rfl ?_
  refine g_Msg_27 D b ca C (by first | assumption | (constructor <;> omega) | omega) (pc := 17) d_Msg_replySeal_17 ?_
  refine q_Msg_41 C.1 (pc := 20) d_Msg_replySeal_20 (c_Msg_stir l ) ⟨Nat.le_of_ble_eq_true rfl, Nat.le_of_ble_eq_true rfl⟩ ⟨Nat.zero_le _, Nat.zero_le _⟩ (Nat.le_of_ble_eq_true rfl) ?_
  refine rx_istore_n C.1 (pc := 23) d_Msg_replySeal_23 (by decide) ?_
  refine rx_iload_n C.1 (pc := 24) d_Msg_replySeal_24 rfl ?_
  refine rx_aload_n C.1 (pc := 25) d_Msg_replySeal_25 rfl ?_
  refine g_Msg_30 D b ca C (by first | assumption | (constructor <;> omega) | omega) (pc := 26) d_Msg_replySeal_26 ?_
  refine q_Msg_41 C.1 (pc := 29) d_Msg_replySeal_29 (c_Msg_stir l ) ⟨Nat.le_of_ble_eq_true rfl, Nat.le_of_ble_eq_true rfl⟩ ⟨Nat.zero_le _, Nat.zero_le _⟩ (Nat.le_of_ble_eq_true rfl) ?_
  refine rx_istore_n C.1 (pc := 32) d_Msg_replySeal_32 (by decide) ?_
  refine rx_iload_n C.1 (pc := 33) d_Msg_replySeal_33 rfl ?_
  refine rx_aload_n C.1 (pc := 34) d_Msg_replySeal_34 rfl ?_
  refine g_Msg_33 D b ca C (by first | assumption | (constructor <;> omega) | omega) (pc := 35) d_Msg_replySeal_35 ?_
  refine q_Msg_41 C.1 (pc := 38) d_Msg_replySeal_38 (c_Msg_stir l ) ⟨Nat.le_of_ble_eq_true rfl, Nat.le_of_ble_eq_true rfl⟩ ⟨Nat.zero_le _, Nat.zero_le _⟩ (Nat.le_of_ble_eq_true rfl) ?_
  refine rx_istore_n C.1 (pc := 41) d_Msg_replySeal_41 (by decide) ?_
  refine rx_iload_n C.1 (pc := 42) d_Msg_replySeal_42 rfl ?_
  refine rx_aload_n C.1 (pc := 43) d_Msg_replySeal_43 rfl ?_
  refine g_Msg_21 D b ca C (by first | assumption | (constructor <;> omega) | omega) (pc := 44) d_Msg_replySeal_44 ?_
  refine q_Msg_41 C.1 (pc := 47) d_Msg_replySeal_47 (c_Msg_stir l ) ⟨Nat.le_of_ble_eq_true rfl, Nat.le_of_ble_eq_true rfl⟩ ⟨Nat.zero_le _, Nat.zero_le _⟩ (Nat.le_of_ble_eq_true rfl) ?_
  exact rx_iret C (pc := 50) d_Msg_replySeal_50 (by first | rfl | (unfold rv_Msg_replySeal; rfl)) rfl

def rv_Wire_holds (σ : rMem) (i : Int32) : Int32 := if i < 0 then 0 else (if (σ 1 1) ≤ i then 0 else 1)
set_option maxHeartbeats 4000000 in
set_option maxRecDepth 100000 in
theorem c_Wire_holds (l : Launch) (D : va_G) (b : Nat) (ca : Nat → ClassId) {σ : rMem} {i : Int32} : rx_C l (rx_fin D b ca) y_Wire_holds b_Wire_holds 2 (some .boolean) (rx_rm 0) [.ref (rg_A (rx_fin D b ca) 1), .int i] σ (some (.int (rv_Wire_holds σ i))) σ := by
  refine rx_of (lo := [(0, .ref (rg_A (rx_fin D b ca) 1)), (1, .int i)]) (by decide) (rx_fin_D D b ca) rfl (Nat.le_of_ble_eq_true rfl) rfl ?_
  intro p e s m below meth c C
  refine rx_iload_n C.1 (pc := 0) d_Wire_holds_0 rfl ?_
  refine rx_if_lt C.1 (pc := 1) d_Wire_holds_1 (tgt := 16) rfl (fun h1 => ?_) (fun h1 => ?_)
  ·
    refine rx_iconst C.1 (v := 0) (pc := 16) d_Wire_holds_16 (by decide) ?_
    exact rx_zret C (pc := 17) d_Wire_holds_17 (Or.inl rfl) (by unfold rv_Wire_holds; first | (simp only [if_pos h1]; done) | (simp only [if_pos h1]; rfl)) rfl
  ·
    refine rx_iload_n C.1 (pc := 4) d_Wire_holds_4 rfl ?_
    refine rx_aload_n C.1 (pc := 5) d_Wire_holds_5 rfl ?_
    refine g_Wire_18 D b ca C (pc := 6) d_Wire_holds_6 ?_
    refine rx_icmp_ge C.1 (pc := 9) d_Wire_holds_9 (tgt := 16) rfl (fun h2 => ?_) (fun h2 => ?_)
    ·
      refine rx_iconst C.1 (v := 0) (pc := 16) d_Wire_holds_16 (by decide) ?_
      exact rx_zret C (pc := 17) d_Wire_holds_17 (Or.inl rfl) (by unfold rv_Wire_holds; first | (simp only [if_neg h1, if_pos h2]; done) | (simp only [if_neg h1, if_pos h2]; rfl)) rfl
    ·
      refine rx_iconst C.1 (v := 1) (pc := 12) d_Wire_holds_12 (by decide) ?_
      refine rx_goto C.1 (pc := 13) d_Wire_holds_13 (tgt := 17) rfl ?_
      exact rx_zret C (pc := 17) d_Wire_holds_17 (Or.inr rfl) (by unfold rv_Wire_holds; first | (simp only [if_neg h1, if_neg h2]; done) | (simp only [if_neg h1, if_neg h2]; rfl)) rfl

def rv_Wire_isFull (σ : rMem)  : Int32 := if (σ 1 1) < 40 then 0 else 1
set_option maxHeartbeats 4000000 in
set_option maxRecDepth 100000 in
theorem c_Wire_isFull (l : Launch) (D : va_G) (b : Nat) (ca : Nat → ClassId) {σ : rMem}  : rx_C l (rx_fin D b ca) y_Wire_isFull b_Wire_isFull 1 (some .boolean) (rx_rm 0) [.ref (rg_A (rx_fin D b ca) 1)] σ (some (.int (rv_Wire_isFull σ))) σ := by
  refine rx_of (lo := [(0, .ref (rg_A (rx_fin D b ca) 1))]) (by decide) (rx_fin_D D b ca) rfl (Nat.le_of_ble_eq_true rfl) rfl ?_
  intro p e s m below meth c C
  refine rx_aload_n C.1 (pc := 0) d_Wire_isFull_0 rfl ?_
  refine g_Wire_18 D b ca C (pc := 1) d_Wire_isFull_1 ?_
  refine rx_bipush C.1 (v := 40) (pc := 4) d_Wire_isFull_4 (by decide) ?_
  refine rx_icmp_lt C.1 (pc := 6) d_Wire_isFull_6 (tgt := 13) rfl (fun h1 => ?_) (fun h1 => ?_)
  ·
    refine rx_iconst C.1 (v := 0) (pc := 13) d_Wire_isFull_13 (by decide) ?_
    exact rx_zret C (pc := 14) d_Wire_isFull_14 (Or.inl rfl) (by unfold rv_Wire_isFull; first | (simp only [if_pos h1]; done) | (simp only [if_pos h1]; rfl)) rfl
  ·
    refine rx_iconst C.1 (v := 1) (pc := 9) d_Wire_isFull_9 (by decide) ?_
    refine rx_goto C.1 (pc := 10) d_Wire_isFull_10 (tgt := 14) rfl ?_
    exact rx_zret C (pc := 14) d_Wire_isFull_14 (Or.inr rfl) (by unfold rv_Wire_isFull; first | (simp only [if_neg h1]; done) | (simp only [if_neg h1]; rfl)) rfl

theorem nx_full {σ : rMem} (h : rv_Wire_isFull σ = 0) : (σ 1 1).toInt < 40 := by
  unfold rv_Wire_isFull at h
  by_cases h1 : σ 1 1 < 40
  · have h2 := rx_ltI.mp h1
    rw [rx_I40] at h2
    exact h2
  · rw [if_neg h1] at h
    exact absurd h (by decide)
theorem nx_inc {σ : rMem} (hI : rx_SI σ) (h : rv_Wire_isFull σ = 0) : (σ 1 1 + 1).toInt = (σ 1 1).toInt + 1 := by
  have h1 := nx_full h
  have h2 := hI.1
  rw [rx_addI (by rw [rx_I1]; omega) (by rw [rx_I1]; omega), rx_I1]
theorem nx_size {σ : rMem} (hI : rx_SI σ) (h : rv_Wire_isFull σ = 0) : 0 ≤ (σ 1 1 + 1).toInt ∧ (σ 1 1 + 1).toInt ≤ 40 := by
  have h1 := nx_full h
  have h2 := hI.1
  rw [nx_inc hI h]
  omega
theorem nx_dec {σ : rMem} (hI : rx_SI σ) (h : rv_Wire_isFull σ = 0) : rx_wr σ 1 1 (σ 1 1 + 1) 1 1 - 1 = σ 1 1 := by
  have h1 := nx_full h
  have h2 := hI.1
  have h3 := nx_inc hI h
  rw [rx_wr_eq, rx_eqI, rx_subI (by rw [rx_I1]; omega) (by rw [rx_I1]; omega), rx_I1]
  omega
theorem nx_ix {σ : rMem} (hI : rx_SI σ) (h : rv_Wire_isFull σ = 0) : vp_in (rx_wr σ 1 1 (σ 1 1 + 1) 1 1 - 1) 41 := by
  have h1 := nx_full h
  have h2 := hI.1
  rw [nx_dec hI h]
  exact rx_vinI (by omega) (by omega)
theorem nx_v40 : vp_in 40 41 := vp_in_iff.mpr (by decide)
def sp_Wire_nextRow (σ : rMem)  : rMem × Nat := if (rv_Wire_isFull σ) = 0 then (let m1 := rx_wr σ 1 1 ((σ 1 1) + 1); (m1, (2 + (m1 2 ((m1 1 1) - 1).toNatClampNeg).toNatClampNeg))) else (σ, (2 + (σ 2 40).toNatClampNeg))
set_option maxHeartbeats 4000000 in
set_option maxRecDepth 100000 in
theorem c_Wire_nextRow (l : Launch) (D : va_G) (b : Nat) (ca : Nat → ClassId) {σ : rMem}  : rx_C l (rx_fin D b ca) y_Wire_nextRow b_Wire_nextRow 1 (some (.object "RoamingNet$Message")) (rx_rm 1) [.ref (rg_A (rx_fin D b ca) 1)] σ (some (.ref (rg_A (rx_fin D b ca) (sp_Wire_nextRow σ).2))) (sp_Wire_nextRow σ).1 := by
  refine rx_of (lo := [(0, .ref (rg_A (rx_fin D b ca) 1))]) (by decide) (rx_fin_D D b ca) rfl (Nat.le_of_ble_eq_true rfl) rfl ?_
  intro p e s m below meth c C
  refine rx_aload_n C.1 (pc := 0) d_Wire_nextRow_0 rfl ?_
  refine q_Wire_22 D b ca C (pc := 1) d_Wire_nextRow_1 (c_Wire_isFull l D b ca ) ⟨Nat.le_of_ble_eq_true rfl, Nat.le_of_ble_eq_true rfl⟩ ⟨Nat.zero_le _, Nat.zero_le _⟩ (Nat.le_of_ble_eq_true rfl) ?_
  refine rx_if_eq C.1 (pc := 4) d_Wire_nextRow_4 (tgt := 15) rfl (fun h1 => ?_) (fun h1 => ?_)
  ·
    refine rx_aload_n C.1 (pc := 15) d_Wire_nextRow_15 rfl ?_
    refine rx_dup C.1 (pc := 16) d_Wire_nextRow_16 rfl ?_
    refine g_Wire_18 D b ca C (pc := 17) d_Wire_nextRow_17 ?_
    refine rx_iconst C.1 (v := 1) (pc := 20) d_Wire_nextRow_20 (by decide) ?_
    refine rx_iadd C.1 (pc := 21) d_Wire_nextRow_21 ?_
    refine rx_si (fun hI => ?_)
    have hz1 := nx_size hI h1
    refine p_Wire_18 D b ca C (pc := 22) d_Wire_nextRow_22 (by assumption) ?_
    refine rx_aload_n C.1 (pc := 25) d_Wire_nextRow_25 rfl ?_
    refine g_Wire_11 D b ca C (pc := 26) d_Wire_nextRow_26 ?_
    refine rx_aload_n C.1 (pc := 29) d_Wire_nextRow_29 rfl ?_
    refine g_Wire_18 D b ca C (pc := 30) d_Wire_nextRow_30 ?_
    refine rx_iconst C.1 (v := 1) (pc := 33) d_Wire_nextRow_33 (by decide) ?_
    refine rx_isub C.1 (pc := 34) d_Wire_nextRow_34 ?_
    have hz2 := nx_ix hI h1
    refine rx_ald_rows D b ca C (pc := 35) d_Wire_nextRow_35 (by first | assumption | exact rx_in2 (by assumption) | exact rx_v02 | exact rx_v12) ?_
    exact rx_aret C (pc := 36) d_Wire_nextRow_36 (by unfold sp_Wire_nextRow; first | (simp only [if_pos h1]; done) | (simp only [if_pos h1]; rfl)) (by unfold sp_Wire_nextRow; first | (simp only [if_pos h1]; done) | (simp only [if_pos h1]; rfl))
  ·
    refine rx_aload_n C.1 (pc := 7) d_Wire_nextRow_7 rfl ?_
    refine g_Wire_11 D b ca C (pc := 8) d_Wire_nextRow_8 ?_
    refine rx_bipush C.1 (v := 40) (pc := 11) d_Wire_nextRow_11 (by decide) ?_
    refine rx_ald_rows D b ca C (pc := 13) d_Wire_nextRow_13 nx_v40 ?_
    exact rx_aret C (pc := 14) d_Wire_nextRow_14 (by unfold sp_Wire_nextRow; first | (simp only [if_neg h1]; done) | (simp only [if_neg h1]; rfl)) (by unfold sp_Wire_nextRow; first | (simp only [if_neg h1]; done) | (simp only [if_neg h1]; rfl))
theorem rq_Wire_nextRow {σ : rMem} (hI : rx_SI σ) : 3 ≤ (sp_Wire_nextRow σ).2 ∧ (sp_Wire_nextRow σ).2 < 45 := by
  unfold sp_Wire_nextRow
  by_cases h : rv_Wire_isFull σ = 0
  · rw [if_pos h]
    show 3 ≤ 2 + (rx_wr σ 1 1 (σ 1 1 + 1) 2 (rx_wr σ 1 1 (σ 1 1 + 1) 1 1 - 1).toNatClampNeg).toNatClampNeg ∧ _
    have h1 := rx_vn (nx_ix hI h)
    rw [rx_wr_ne (a := 2) (by decide)]
    exact rx_rowq hI h1
  · rw [if_neg h]
    exact rx_rowq hI (k := 40) (by decide)

def sp_Wire_sendTo (σ : rMem) (tg : Int32) (kd : Int32) (mo : Int32) (nu : Int32) : rMem × Nat := let m1 := (sp_Wire_nextRow σ).1; let m2 := sp_Msg_begin m1 ((sp_Wire_nextRow σ).2) kd tg mo nu; (m2, (sp_Wire_nextRow σ).2)
set_option maxHeartbeats 4000000 in
set_option maxRecDepth 100000 in
theorem c_Wire_sendTo (l : Launch) (D : va_G) (b : Nat) (ca : Nat → ClassId) {σ : rMem} {tg : Int32} {kd : Int32} {mo : Int32} {nu : Int32} : rx_C l (rx_fin D b ca) y_Wire_sendTo b_Wire_sendTo 6 (some (.object "RoamingNet$Message")) (rx_rm 2) [.ref (rg_A (rx_fin D b ca) 1), .int tg, .int kd, .int mo, .int nu] σ (some (.ref (rg_A (rx_fin D b ca) (sp_Wire_sendTo σ tg kd mo nu).2))) (sp_Wire_sendTo σ tg kd mo nu).1 := by
  refine rx_of (lo := [(0, .ref (rg_A (rx_fin D b ca) 1)), (1, .int tg), (2, .int kd), (3, .int mo), (4, .int nu)]) (by decide) (rx_fin_D D b ca) rfl (Nat.le_of_ble_eq_true rfl) rfl ?_
  intro p e s m below meth c C
  refine rx_aload_n C.1 (pc := 0) d_Wire_sendTo_0 rfl ?_
  refine q_Wire_26 D b ca C (pc := 1) d_Wire_sendTo_1 (c_Wire_nextRow l D b ca ) (fun hI => rq_Wire_nextRow hI) ⟨Nat.le_of_ble_eq_true rfl, Nat.le_of_ble_eq_true rfl⟩ ⟨Nat.zero_le _, Nat.zero_le _⟩ (Nat.le_of_ble_eq_true rfl) (fun hq1 => ?_)
  refine rx_astore C.1 (pc := 4) d_Wire_sendTo_4 (by decide) ?_
  refine rx_aload C.1 (pc := 6) d_Wire_sendTo_6 rfl ?_
  refine rx_iload_n C.1 (pc := 8) d_Wire_sendTo_8 rfl ?_
  refine rx_iload_n C.1 (pc := 9) d_Wire_sendTo_9 rfl ?_
  refine rx_iload_n C.1 (pc := 10) d_Wire_sendTo_10 rfl ?_
  refine rx_iload C.1 (pc := 11) d_Wire_sendTo_11 rfl ?_
  refine q_Wire_30 D b ca C (by first | assumption | (constructor <;> omega) | omega) (pc := 13) d_Wire_sendTo_13 (c_Msg_begin l D b ca (by first | assumption | (constructor <;> omega) | omega) ) ⟨Nat.le_of_ble_eq_true rfl, Nat.le_of_ble_eq_true rfl⟩ ⟨Nat.zero_le _, Nat.zero_le _⟩ (Nat.le_of_ble_eq_true rfl) ?_
  refine rx_aload C.1 (pc := 16) d_Wire_sendTo_16 rfl ?_
  exact rx_aret C (pc := 18) d_Wire_sendTo_18 (by first | rfl | (unfold sp_Wire_sendTo; rfl)) (by first | rfl | (unfold sp_Wire_sendTo; rfl))
theorem rq_Wire_sendTo {σ : rMem} {tg kd mo nu : Int32} (hI : rx_SI σ) : 3 ≤ (sp_Wire_sendTo σ tg kd mo nu).2 ∧ (sp_Wire_sendTo σ tg kd mo nu).2 < 45 := rq_Wire_nextRow hI

def sp_Wire_sendInNetwork (σ : rMem) (nw : Int32) (kd : Int32) (mo : Int32) (nu : Int32) : rMem × Nat := let m1 := (sp_Wire_sendTo σ 5 kd mo nu).1; let m2 := rx_wr m1 ((sp_Wire_sendTo σ 5 kd mo nu).2) 2 nw; (m2, (sp_Wire_sendTo σ 5 kd mo nu).2)
set_option maxHeartbeats 4000000 in
set_option maxRecDepth 100000 in
theorem c_Wire_sendInNetwork (l : Launch) (D : va_G) (b : Nat) (ca : Nat → ClassId) {σ : rMem} {nw : Int32} {kd : Int32} {mo : Int32} {nu : Int32} : rx_C l (rx_fin D b ca) y_Wire_sendInNetwork b_Wire_sendInNetwork 6 (some (.object "RoamingNet$Message")) (rx_rm 3) [.ref (rg_A (rx_fin D b ca) 1), .int nw, .int kd, .int mo, .int nu] σ (some (.ref (rg_A (rx_fin D b ca) (sp_Wire_sendInNetwork σ nw kd mo nu).2))) (sp_Wire_sendInNetwork σ nw kd mo nu).1 := by
  refine rx_of (lo := [(0, .ref (rg_A (rx_fin D b ca) 1)), (1, .int nw), (2, .int kd), (3, .int mo), (4, .int nu)]) (by decide) (rx_fin_D D b ca) rfl (Nat.le_of_ble_eq_true rfl) rfl ?_
  intro p e s m below meth c C
  refine rx_aload_n C.1 (pc := 0) d_Wire_sendInNetwork_0 rfl ?_
  refine rx_iconst C.1 (v := 5) (pc := 1) d_Wire_sendInNetwork_1 (by decide) ?_
  refine rx_iload_n C.1 (pc := 2) d_Wire_sendInNetwork_2 rfl ?_
  refine rx_iload_n C.1 (pc := 3) d_Wire_sendInNetwork_3 rfl ?_
  refine rx_iload C.1 (pc := 4) d_Wire_sendInNetwork_4 rfl ?_
  refine q_Wire_34 D b ca C (pc := 6) d_Wire_sendInNetwork_6 (c_Wire_sendTo l D b ca ) (fun hI => rq_Wire_sendTo hI) ⟨Nat.le_of_ble_eq_true rfl, Nat.le_of_ble_eq_true rfl⟩ ⟨Nat.zero_le _, Nat.zero_le _⟩ (Nat.le_of_ble_eq_true rfl) (fun hq1 => ?_)
  refine rx_astore C.1 (pc := 9) d_Wire_sendInNetwork_9 (by decide) ?_
  refine rx_aload C.1 (pc := 11) d_Wire_sendInNetwork_11 rfl ?_
  refine rx_iload_n C.1 (pc := 13) d_Wire_sendInNetwork_13 rfl ?_
  refine p_Wire_38 D b ca C (by first | assumption | (constructor <;> omega) | omega) (pc := 14) d_Wire_sendInNetwork_14 ?_
  refine rx_aload C.1 (pc := 17) d_Wire_sendInNetwork_17 rfl ?_
  exact rx_aret C (pc := 19) d_Wire_sendInNetwork_19 (by first | rfl | (unfold sp_Wire_sendInNetwork; rfl)) (by first | rfl | (unfold sp_Wire_sendInNetwork; rfl))
theorem rq_Wire_sendInNetwork {σ : rMem} {nw kd mo nu : Int32} (hI : rx_SI σ) : 3 ≤ (sp_Wire_sendInNetwork σ nw kd mo nu).2 ∧ (sp_Wire_sendInNetwork σ nw kd mo nu).2 < 45 := rq_Wire_nextRow hI

def sp_Wire_sendOn (σ : rMem) (r : Nat) (tg : Int32) (nw : Int32) : rMem := let m1 := (sp_Wire_nextRow σ).1; let m2 := sp_Msg_copyFrom m1 ((sp_Wire_nextRow σ).2) r; let m3 := rx_wr m2 ((sp_Wire_nextRow σ).2) 1 tg; let m4 := rx_wr m3 ((sp_Wire_nextRow σ).2) 2 nw; m4
set_option maxHeartbeats 4000000 in
set_option maxRecDepth 100000 in
theorem c_Wire_sendOn (l : Launch) (D : va_G) (b : Nat) (ca : Nat → ClassId) {σ : rMem} {r : Nat} {tg : Int32} {nw : Int32} (hr : 3 ≤ r ∧ r < 45) : rx_C l (rx_fin D b ca) y_Wire_sendOn b_Wire_sendOn 5 none (rx_rm 2) [.ref (rg_A (rx_fin D b ca) 1), .ref (rg_A (rx_fin D b ca) r), .int tg, .int nw] σ none (sp_Wire_sendOn σ r tg nw) := by
  refine rx_of (lo := [(0, .ref (rg_A (rx_fin D b ca) 1)), (1, .ref (rg_A (rx_fin D b ca) r)), (2, .int tg), (3, .int nw)]) (by decide) (rx_fin_D D b ca) rfl (Nat.le_of_ble_eq_true rfl) rfl ?_
  intro p e s m below meth c C
  refine rx_aload_n C.1 (pc := 0) d_Wire_sendOn_0 rfl ?_
  refine q_Wire_26 D b ca C (pc := 1) d_Wire_sendOn_1 (c_Wire_nextRow l D b ca ) (fun hI => rq_Wire_nextRow hI) ⟨Nat.le_of_ble_eq_true rfl, Nat.le_of_ble_eq_true rfl⟩ ⟨Nat.zero_le _, Nat.zero_le _⟩ (Nat.le_of_ble_eq_true rfl) (fun hq1 => ?_)
  refine rx_astore C.1 (pc := 4) d_Wire_sendOn_4 (by decide) ?_
  refine rx_aload C.1 (pc := 6) d_Wire_sendOn_6 rfl ?_
  refine rx_aload_n C.1 (pc := 8) d_Wire_sendOn_8 rfl ?_
  refine q_Wire_41 D b ca C (by first | assumption | (constructor <;> omega) | omega) (pc := 9) d_Wire_sendOn_9 (c_Msg_copyFrom l D b ca (by first | assumption | (constructor <;> omega) | omega) (by first | assumption | exact rx_iM0 | exact rx_iM1 | (constructor <;> omega))) ⟨Nat.le_of_ble_eq_true rfl, Nat.le_of_ble_eq_true rfl⟩ ⟨Nat.zero_le _, Nat.zero_le _⟩ (Nat.le_of_ble_eq_true rfl) ?_
  refine rx_aload C.1 (pc := 12) d_Wire_sendOn_12 rfl ?_
  refine rx_iload_n C.1 (pc := 14) d_Wire_sendOn_14 rfl ?_
  refine p_Wire_45 D b ca C (by first | assumption | (constructor <;> omega) | omega) (pc := 15) d_Wire_sendOn_15 ?_
  refine rx_aload C.1 (pc := 18) d_Wire_sendOn_18 rfl ?_
  refine rx_iload_n C.1 (pc := 20) d_Wire_sendOn_20 rfl ?_
  refine p_Wire_38 D b ca C (by first | assumption | (constructor <;> omega) | omega) (pc := 21) d_Wire_sendOn_21 ?_
  exact rx_vret C (pc := 24) d_Wire_sendOn_24 (by first | rfl | (unfold sp_Wire_sendOn; rfl))
