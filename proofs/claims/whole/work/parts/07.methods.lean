def rv_Net_isWithin (x : Int32) (lo : Int32) (hi : Int32) : Int32 := if x < lo then 0 else (if hi < x then 0 else 1)
set_option maxHeartbeats 4000000 in
set_option maxRecDepth 100000 in
theorem c_Net_isWithin (l : Launch) {x : Int32} {lo : Int32} {hi : Int32} : rx_S l y_Net_isWithin b_Net_isWithin 3 (some .boolean) (rx_rm 0) [.int x, .int lo, .int hi] (.int (rv_Net_isWithin x lo hi)) := by
  refine rx_ofS (lo := [(0, .int x), (1, .int lo), (2, .int hi)]) (by decide) rfl (Nat.le_of_ble_eq_true rfl) rfl ?_
  intro p e s mm below meth c C0
  have C := And.intro C0 True.intro
  refine rx_iload_n C.1 (pc := 0) d_Net_isWithin_0 rfl ?_
  refine rx_iload_n C.1 (pc := 1) d_Net_isWithin_1 rfl ?_
  refine rx_icmp_lt C.1 (pc := 2) d_Net_isWithin_2 (tgt := 14) rfl (fun h1 => ?_) (fun h1 => ?_)
  ·
    refine rx_iconst C.1 (v := 0) (pc := 14) d_Net_isWithin_14 (by decide) ?_
    exact rx_zretS C.1 (pc := 15) d_Net_isWithin_15 (Or.inl rfl) (by unfold rv_Net_isWithin; first | (simp only [if_pos h1]; done) | (simp only [if_pos h1]; rfl)) 
  ·
    refine rx_iload_n C.1 (pc := 5) d_Net_isWithin_5 rfl ?_
    refine rx_iload_n C.1 (pc := 6) d_Net_isWithin_6 rfl ?_
    refine rx_icmp_gt C.1 (pc := 7) d_Net_isWithin_7 (tgt := 14) rfl (fun h2 => ?_) (fun h2 => ?_)
    ·
      refine rx_iconst C.1 (v := 0) (pc := 14) d_Net_isWithin_14 (by decide) ?_
      exact rx_zretS C.1 (pc := 15) d_Net_isWithin_15 (Or.inl rfl) (by unfold rv_Net_isWithin; first | (simp only [if_neg h1, if_pos h2]; done) | (simp only [if_neg h1, if_pos h2]; rfl)) 
    ·
      refine rx_iconst C.1 (v := 1) (pc := 10) d_Net_isWithin_10 (by decide) ?_
      refine rx_goto C.1 (pc := 11) d_Net_isWithin_11 (tgt := 15) rfl ?_
      exact rx_zretS C.1 (pc := 15) d_Net_isWithin_15 (Or.inr rfl) (by unfold rv_Net_isWithin; first | (simp only [if_neg h1, if_neg h2]; done) | (simp only [if_neg h1, if_neg h2]; rfl)) 

theorem rz_Net_isWithin (x lo hi : Int32) : rv_Net_isWithin x lo hi = 0 ∨ rv_Net_isWithin x lo hi = 1 := by
  unfold rv_Net_isWithin
  by_cases h1 : x < lo
  · exact Or.inl (if_pos h1)
  · rw [if_neg h1]
    by_cases h2 : hi < x
    · exact Or.inl (if_pos h2)
    · exact Or.inr (if_neg h2)
def rv_Net_isMobile (m : Int32) : Int32 := (rv_Net_isWithin m 0 1)
set_option maxHeartbeats 4000000 in
set_option maxRecDepth 100000 in
theorem c_Net_isMobile (l : Launch) {m : Int32} : rx_S l y_Net_isMobile b_Net_isMobile 1 (some .boolean) (rx_rm 1) [.int m] (.int (rv_Net_isMobile m)) := by
  refine rx_ofS (lo := [(0, .int m)]) (by decide) rfl (Nat.le_of_ble_eq_true rfl) rfl ?_
  intro p e s mm below meth c C0
  have C := And.intro C0 True.intro
  refine rx_iload_n C.1 (pc := 0) d_Net_isMobile_0 rfl ?_
  refine rx_iconst C.1 (v := 0) (pc := 1) d_Net_isMobile_1 (by decide) ?_
  refine rx_iconst C.1 (v := 1) (pc := 2) d_Net_isMobile_2 (by decide) ?_
  refine q_Net_11 C.1 (pc := 3) d_Net_isMobile_3 (c_Net_isWithin l ) ⟨Nat.le_of_ble_eq_true rfl, Nat.le_of_ble_eq_true rfl⟩ ⟨Nat.zero_le _, Nat.zero_le _⟩ (Nat.le_of_ble_eq_true rfl) ?_
  exact rx_zretS C.1 (pc := 6) d_Net_isMobile_6 (rz_Net_isWithin _ _ _) (by first | rfl | (unfold rv_Net_isMobile; rfl)) 
theorem rm_Net {m : Int32} (h : ¬ rv_Net_isMobile m = 0) : rx_iM m := by
  unfold rv_Net_isMobile rv_Net_isWithin at h
  by_cases h1 : m < 0
  · rw [if_pos h1] at h
    exact absurd rfl h
  · rw [if_neg h1] at h
    by_cases h2 : 1 < m
    · rw [if_pos h2] at h
      exact absurd rfl h
    · rw [rx_ltI] at h1 h2
      rw [rx_I0] at h1
      rw [rx_I1] at h2
      exact ⟨by omega, by omega⟩

def rv_Net_isAgent (m : Int32) : Int32 := (rv_Net_isWithin m 0 3)
set_option maxHeartbeats 4000000 in
set_option maxRecDepth 100000 in
theorem c_Net_isAgent (l : Launch) {m : Int32} : rx_S l y_Net_isAgent b_Net_isAgent 1 (some .boolean) (rx_rm 1) [.int m] (.int (rv_Net_isAgent m)) := by
  refine rx_ofS (lo := [(0, .int m)]) (by decide) rfl (Nat.le_of_ble_eq_true rfl) rfl ?_
  intro p e s mm below meth c C0
  have C := And.intro C0 True.intro
  refine rx_iload_n C.1 (pc := 0) d_Net_isAgent_0 rfl ?_
  refine rx_iconst C.1 (v := 0) (pc := 1) d_Net_isAgent_1 (by decide) ?_
  refine rx_iconst C.1 (v := 3) (pc := 2) d_Net_isAgent_2 (by decide) ?_
  refine q_Net_11 C.1 (pc := 3) d_Net_isAgent_3 (c_Net_isWithin l ) ⟨Nat.le_of_ble_eq_true rfl, Nat.le_of_ble_eq_true rfl⟩ ⟨Nat.zero_le _, Nat.zero_le _⟩ (Nat.le_of_ble_eq_true rfl) ?_
  exact rx_zretS C.1 (pc := 6) d_Net_isAgent_6 (rz_Net_isWithin _ _ _) (by first | rfl | (unfold rv_Net_isAgent; rfl)) 

def rv_Msg_stir (h : Int32) (x : Int32) : Int32 := (((h ^^^ x) * 16777619) ^^^ (((h ^^^ x) * 16777619).toUInt32 >>> ((15 : Int32).toUInt32 &&& Int32.toUInt32 31)).toInt32)
set_option maxHeartbeats 4000000 in
set_option maxRecDepth 100000 in
theorem c_Msg_stir (l : Launch) {h : Int32} {x : Int32} : rx_S l y_Msg_stir b_Msg_stir 3 (some .int) (rx_rm 0) [.int h, .int x] (.int (rv_Msg_stir h x)) := by
  refine rx_ofS (lo := [(0, .int h), (1, .int x)]) (by decide) rfl (Nat.le_of_ble_eq_true rfl) rfl ?_
  intro p e s mm below meth c C0
  have C := And.intro C0 True.intro
  refine rx_iload_n C.1 (pc := 0) d_Msg_stir_0 rfl ?_
  refine rx_iload_n C.1 (pc := 1) d_Msg_stir_1 rfl ?_
  refine rx_ixor C.1 (pc := 2) d_Msg_stir_2 ?_
  refine rx_ldc C.1 (v := 16777619) k_Msg_45 (pc := 3) d_Msg_stir_3 ?_
  refine rx_imul C.1 (pc := 5) d_Msg_stir_5 ?_
  refine rx_istore_n C.1 (pc := 6) d_Msg_stir_6 (by decide) ?_
  refine rx_iload_n C.1 (pc := 7) d_Msg_stir_7 rfl ?_
  refine rx_iload_n C.1 (pc := 8) d_Msg_stir_8 rfl ?_
  refine rx_bipush C.1 (v := 15) (pc := 9) d_Msg_stir_9 (by decide) ?_
  refine rx_iushr C.1 (pc := 11) d_Msg_stir_11 rfl ?_
  refine rx_ixor C.1 (pc := 12) d_Msg_stir_12 ?_
  exact rx_iretS C.1 (pc := 13) d_Msg_stir_13 (by first | rfl | (unfold rv_Msg_stir; rfl)) 

def sp_Msg_begin (σ : rMem) (q : Nat) (kd : Int32) (tg : Int32) (mo : Int32) (nu : Int32) : rMem := let m1 := rx_wr σ q 0 kd; let m2 := rx_wr m1 q 1 tg; let m3 := rx_wr m2 q 3 mo; let m4 := rx_wr m3 q 4 nu; let m5 := rx_wr m4 q 2 (-1); let m6 := rx_wr m5 q 5 0; let m7 := rx_wr m6 q 6 0; let m8 := rx_wr m7 q 7 0; let m9 := rx_wr m8 q 8 0; m9
set_option maxHeartbeats 4000000 in
set_option maxRecDepth 100000 in
theorem c_Msg_begin (l : Launch) (D : va_G) (b : Nat) (ca : Nat → ClassId) {σ : rMem} {q : Nat} (hq : 3 ≤ q ∧ q < 45) {kd : Int32} {tg : Int32} {mo : Int32} {nu : Int32} : rx_C l (rx_fin D b ca) y_Msg_begin b_Msg_begin 5 none (rx_rm 0) [.ref (rg_A (rx_fin D b ca) q), .int kd, .int tg, .int mo, .int nu] σ none (sp_Msg_begin σ q kd tg mo nu) := by
  refine rx_of (lo := [(0, .ref (rg_A (rx_fin D b ca) q)), (1, .int kd), (2, .int tg), (3, .int mo), (4, .int nu)]) (by decide) (rx_fin_D D b ca) rfl (Nat.le_of_ble_eq_true rfl) rfl ?_
  intro p e s mm below meth c C
  refine rx_aload_n C.1 (pc := 0) d_Msg_begin_0 rfl ?_
  refine rx_iload_n C.1 (pc := 1) d_Msg_begin_1 rfl ?_
  refine p_Msg_9 D b ca C (by first | assumption | (constructor <;> omega) | omega | decide) (pc := 2) d_Msg_begin_2 ?_
  refine rx_aload_n C.1 (pc := 5) d_Msg_begin_5 rfl ?_
  refine rx_iload_n C.1 (pc := 6) d_Msg_begin_6 rfl ?_
  refine p_Msg_15 D b ca C (by first | assumption | (constructor <;> omega) | omega | decide) (pc := 7) d_Msg_begin_7 ?_
  refine rx_aload_n C.1 (pc := 10) d_Msg_begin_10 rfl ?_
  refine rx_iload_n C.1 (pc := 11) d_Msg_begin_11 rfl ?_
  refine p_Msg_18 D b ca C (by first | assumption | (constructor <;> omega) | omega | decide) (pc := 12) d_Msg_begin_12 ?_
  refine rx_aload_n C.1 (pc := 15) d_Msg_begin_15 rfl ?_
  refine rx_iload C.1 (pc := 16) d_Msg_begin_16 rfl ?_
  refine p_Msg_21 D b ca C (by first | assumption | (constructor <;> omega) | omega | decide) (pc := 18) d_Msg_begin_18 ?_
  refine rx_aload_n C.1 (pc := 21) d_Msg_begin_21 rfl ?_
  refine rx_iconst C.1 (v := (-1)) (pc := 22) d_Msg_begin_22 (by decide) ?_
  refine p_Msg_24 D b ca C (by first | assumption | (constructor <;> omega) | omega | decide) (pc := 23) d_Msg_begin_23 ?_
  refine rx_aload_n C.1 (pc := 26) d_Msg_begin_26 rfl ?_
  refine rx_iconst C.1 (v := 0) (pc := 27) d_Msg_begin_27 (by decide) ?_
  refine p_Msg_27 D b ca C (by first | assumption | (constructor <;> omega) | omega | decide) (pc := 28) d_Msg_begin_28 ?_
  refine rx_aload_n C.1 (pc := 31) d_Msg_begin_31 rfl ?_
  refine rx_iconst C.1 (v := 0) (pc := 32) d_Msg_begin_32 (by decide) ?_
  refine p_Msg_30 D b ca C (by first | assumption | (constructor <;> omega) | omega | decide) (pc := 33) d_Msg_begin_33 ?_
  refine rx_aload_n C.1 (pc := 36) d_Msg_begin_36 rfl ?_
  refine rx_iconst C.1 (v := 0) (pc := 37) d_Msg_begin_37 (by decide) ?_
  refine p_Msg_33 D b ca C (by first | assumption | (constructor <;> omega) | omega | decide) (pc := 38) d_Msg_begin_38 ?_
  refine rx_aload_n C.1 (pc := 41) d_Msg_begin_41 rfl ?_
  refine rx_iconst C.1 (v := 0) (pc := 42) d_Msg_begin_42 (by decide) ?_
  refine p_Msg_36 D b ca C (by first | assumption | (constructor <;> omega) | omega | decide) (pc := 43) d_Msg_begin_43 ?_
  exact rx_vret C (pc := 46) d_Msg_begin_46 (by first | rfl | (unfold sp_Msg_begin; rfl))

def sp_Msg_copyFrom (σ : rMem) (q : Nat) (r : Nat) : rMem := let m1 := rx_wr σ q 0 (σ r 0); let m2 := rx_wr m1 q 1 (m1 r 1); let m3 := rx_wr m2 q 2 (m2 r 2); let m4 := rx_wr m3 q 3 (m3 r 3); let m5 := rx_wr m4 q 4 (m4 r 4); let m6 := rx_wr m5 q 5 (m5 r 5); let m7 := rx_wr m6 q 6 (m6 r 6); let m8 := rx_wr m7 q 7 (m7 r 7); let m9 := rx_wr m8 q 8 (m8 r 8); m9
set_option maxHeartbeats 4000000 in
set_option maxRecDepth 100000 in
theorem c_Msg_copyFrom (l : Launch) (D : va_G) (b : Nat) (ca : Nat → ClassId) {σ : rMem} {q : Nat} (hq : 3 ≤ q ∧ q < 45) {r : Nat} (hr : 3 ≤ r ∧ r < 45) : rx_C l (rx_fin D b ca) y_Msg_copyFrom b_Msg_copyFrom 2 none (rx_rm 0) [.ref (rg_A (rx_fin D b ca) q), .ref (rg_A (rx_fin D b ca) r)] σ none (sp_Msg_copyFrom σ q r) := by
  refine rx_of (lo := [(0, .ref (rg_A (rx_fin D b ca) q)), (1, .ref (rg_A (rx_fin D b ca) r))]) (by decide) (rx_fin_D D b ca) rfl (Nat.le_of_ble_eq_true rfl) rfl ?_
  intro p e s mm below meth c C
  refine rx_aload_n C.1 (pc := 0) d_Msg_copyFrom_0 rfl ?_
  refine rx_aload_n C.1 (pc := 1) d_Msg_copyFrom_1 rfl ?_
  refine g_Msg_9 D b ca C (by first | assumption | (constructor <;> omega) | omega | decide) (pc := 2) d_Msg_copyFrom_2 ?_
  refine p_Msg_9 D b ca C (by first | assumption | (constructor <;> omega) | omega | decide) (pc := 5) d_Msg_copyFrom_5 ?_
  refine rx_aload_n C.1 (pc := 8) d_Msg_copyFrom_8 rfl ?_
  refine rx_aload_n C.1 (pc := 9) d_Msg_copyFrom_9 rfl ?_
  refine g_Msg_15 D b ca C (by first | assumption | (constructor <;> omega) | omega | decide) (pc := 10) d_Msg_copyFrom_10 ?_
  refine p_Msg_15 D b ca C (by first | assumption | (constructor <;> omega) | omega | decide) (pc := 13) d_Msg_copyFrom_13 ?_
  refine rx_aload_n C.1 (pc := 16) d_Msg_copyFrom_16 rfl ?_
  refine rx_aload_n C.1 (pc := 17) d_Msg_copyFrom_17 rfl ?_
  refine g_Msg_24 D b ca C (by first | assumption | (constructor <;> omega) | omega | decide) (pc := 18) d_Msg_copyFrom_18 ?_
  refine p_Msg_24 D b ca C (by first | assumption | (constructor <;> omega) | omega | decide) (pc := 21) d_Msg_copyFrom_21 ?_
  refine rx_aload_n C.1 (pc := 24) d_Msg_copyFrom_24 rfl ?_
  refine rx_aload_n C.1 (pc := 25) d_Msg_copyFrom_25 rfl ?_
  refine g_Msg_18 D b ca C (by first | assumption | (constructor <;> omega) | omega | decide) (pc := 26) d_Msg_copyFrom_26 ?_
  refine p_Msg_18 D b ca C (by first | assumption | (constructor <;> omega) | omega | decide) (pc := 29) d_Msg_copyFrom_29 ?_
  refine rx_aload_n C.1 (pc := 32) d_Msg_copyFrom_32 rfl ?_
  refine rx_aload_n C.1 (pc := 33) d_Msg_copyFrom_33 rfl ?_
  refine g_Msg_21 D b ca C (by first | assumption | (constructor <;> omega) | omega | decide) (pc := 34) d_Msg_copyFrom_34 ?_
  refine p_Msg_21 D b ca C (by first | assumption | (constructor <;> omega) | omega | decide) (pc := 37) d_Msg_copyFrom_37 ?_
  refine rx_aload_n C.1 (pc := 40) d_Msg_copyFrom_40 rfl ?_
  refine rx_aload_n C.1 (pc := 41) d_Msg_copyFrom_41 rfl ?_
  refine g_Msg_27 D b ca C (by first | assumption | (constructor <;> omega) | omega | decide) (pc := 42) d_Msg_copyFrom_42 ?_
  refine p_Msg_27 D b ca C (by first | assumption | (constructor <;> omega) | omega | decide) (pc := 45) d_Msg_copyFrom_45 ?_
  refine rx_aload_n C.1 (pc := 48) d_Msg_copyFrom_48 rfl ?_
  refine rx_aload_n C.1 (pc := 49) d_Msg_copyFrom_49 rfl ?_
  refine g_Msg_30 D b ca C (by first | assumption | (constructor <;> omega) | omega | decide) (pc := 50) d_Msg_copyFrom_50 ?_
  refine p_Msg_30 D b ca C (by first | assumption | (constructor <;> omega) | omega | decide) (pc := 53) d_Msg_copyFrom_53 ?_
  refine rx_aload_n C.1 (pc := 56) d_Msg_copyFrom_56 rfl ?_
  refine rx_aload_n C.1 (pc := 57) d_Msg_copyFrom_57 rfl ?_
  refine g_Msg_33 D b ca C (by first | assumption | (constructor <;> omega) | omega | decide) (pc := 58) d_Msg_copyFrom_58 ?_
  refine p_Msg_33 D b ca C (by first | assumption | (constructor <;> omega) | omega | decide) (pc := 61) d_Msg_copyFrom_61 ?_
  refine rx_aload_n C.1 (pc := 64) d_Msg_copyFrom_64 rfl ?_
  refine rx_aload_n C.1 (pc := 65) d_Msg_copyFrom_65 rfl ?_
  refine g_Msg_36 D b ca C (by first | assumption | (constructor <;> omega) | omega | decide) (pc := 66) d_Msg_copyFrom_66 ?_
  refine p_Msg_36 D b ca C (by first | assumption | (constructor <;> omega) | omega | decide) (pc := 69) d_Msg_copyFrom_69 ?_
  exact rx_vret C (pc := 72) d_Msg_copyFrom_72 (by first | rfl | (unfold sp_Msg_copyFrom; rfl))

def rv_Msg_summary (σ : rMem) (q : Nat) : Int32 := ((((1000000 * (σ q 0)) + (100000 * (σ q 1))) + (10000 * (σ q 3))) + (σ q 4))
set_option maxHeartbeats 4000000 in
set_option maxRecDepth 100000 in
theorem c_Msg_summary (l : Launch) (D : va_G) (b : Nat) (ca : Nat → ClassId) {σ : rMem} {q : Nat} (hq : 3 ≤ q ∧ q < 45) : rx_C l (rx_fin D b ca) y_Msg_summary b_Msg_summary 1 (some .int) (rx_rm 0) [.ref (rg_A (rx_fin D b ca) q)] σ (some (.int (rv_Msg_summary σ q))) σ := by
  refine rx_of (lo := [(0, .ref (rg_A (rx_fin D b ca) q))]) (by decide) (rx_fin_D D b ca) rfl (Nat.le_of_ble_eq_true rfl) rfl ?_
  intro p e s mm below meth c C
  refine rx_ldc C.1 (v := 1000000) k_Msg_39 (pc := 0) d_Msg_summary_0 ?_
  refine rx_aload_n C.1 (pc := 2) d_Msg_summary_2 rfl ?_
  refine g_Msg_9 D b ca C (by first | assumption | (constructor <;> omega) | omega | decide) (pc := 3) d_Msg_summary_3 ?_
  refine rx_imul C.1 (pc := 6) d_Msg_summary_6 ?_
  refine rx_ldc C.1 (v := 100000) k_Msg_40 (pc := 7) d_Msg_summary_7 ?_
  refine rx_aload_n C.1 (pc := 9) d_Msg_summary_9 rfl ?_
  refine g_Msg_15 D b ca C (by first | assumption | (constructor <;> omega) | omega | decide) (pc := 10) d_Msg_summary_10 ?_
  refine rx_imul C.1 (pc := 13) d_Msg_summary_13 ?_
  refine rx_iadd C.1 (pc := 14) d_Msg_summary_14 ?_
  refine rx_sipush C.1 (v := 10000) (pc := 15) d_Msg_summary_15 (by decide) ?_
  refine rx_aload_n C.1 (pc := 18) d_Msg_summary_18 rfl ?_
  refine g_Msg_18 D b ca C (by first | assumption | (constructor <;> omega) | omega | decide) (pc := 19) d_Msg_summary_19 ?_
  refine rx_imul C.1 (pc := 22) d_Msg_summary_22 ?_
  refine rx_iadd C.1 (pc := 23) d_Msg_summary_23 ?_
  refine rx_aload_n C.1 (pc := 24) d_Msg_summary_24 rfl ?_
  refine g_Msg_21 D b ca C (by first | assumption | (constructor <;> omega) | omega | decide) (pc := 25) d_Msg_summary_25 ?_
  refine rx_iadd C.1 (pc := 28) d_Msg_summary_28 ?_
  exact rx_iret C (pc := 29) d_Msg_summary_29 (by first | rfl | (unfold rv_Msg_summary; rfl)) rfl

def rv_Msg_requestSeal (σ : rMem) (q : Nat) (h : Int32) : Int32 := (rv_Msg_stir (rv_Msg_stir (rv_Msg_stir (rv_Msg_stir (rv_Msg_stir h 2) (σ q 3)) (σ q 5)) (σ q 7)) (σ q 4))
set_option maxHeartbeats 4000000 in
set_option maxRecDepth 100000 in
theorem c_Msg_requestSeal (l : Launch) (D : va_G) (b : Nat) (ca : Nat → ClassId) {σ : rMem} {q : Nat} (hq : 3 ≤ q ∧ q < 45) {h : Int32} : rx_C l (rx_fin D b ca) y_Msg_requestSeal b_Msg_requestSeal 3 (some .int) (rx_rm 1) [.ref (rg_A (rx_fin D b ca) q), .int h] σ (some (.int (rv_Msg_requestSeal σ q h))) σ := by
  refine rx_of (lo := [(0, .ref (rg_A (rx_fin D b ca) q)), (1, .int h)]) (by decide) (rx_fin_D D b ca) rfl (Nat.le_of_ble_eq_true rfl) rfl ?_
  intro p e s mm below meth c C
  refine rx_iload_n C.1 (pc := 0) d_Msg_requestSeal_0 rfl ?_
  refine rx_iconst C.1 (v := 2) (pc := 1) d_Msg_requestSeal_1 (by decide) ?_
  refine q_Msg_41 C.1 (pc := 2) d_Msg_requestSeal_2 (c_Msg_stir l ) ⟨Nat.le_of_ble_eq_true rfl, Nat.le_of_ble_eq_true rfl⟩ ⟨Nat.zero_le _, Nat.zero_le _⟩ (Nat.le_of_ble_eq_true rfl) ?_
  refine rx_istore_n C.1 (pc := 5) d_Msg_requestSeal_5 (by decide) ?_
  refine rx_iload_n C.1 (pc := 6) d_Msg_requestSeal_6 rfl ?_
  refine rx_aload_n C.1 (pc := 7) d_Msg_requestSeal_7 rfl ?_
  refine g_Msg_18 D b ca C (by first | assumption | (constructor <;> omega) | omega | decide) (pc := 8) d_Msg_requestSeal_8 ?_
  refine q_Msg_41 C.1 (pc := 11) d_Msg_requestSeal_11 (c_Msg_stir l ) ⟨Nat.le_of_ble_eq_true rfl, Nat.le_of_ble_eq_true rfl⟩ ⟨Nat.zero_le _, Nat.zero_le _⟩ (Nat.le_of_ble_eq_true rfl) ?_
  refine rx_istore_n C.1 (pc := 14) d_Msg_requestSeal_14 (by decide) ?_
  refine rx_iload_n C.1 (pc := 15) d_Msg_requestSeal_15 rfl ?_
  refine rx_aload_n C.1 (pc := 16) d_Msg_requestSeal_16 rfl ?_
  refine g_Msg_27 D b ca C (by first | assumption | (constructor <;> omega) | omega | decide) (pc := 17) d_Msg_requestSeal_17 ?_
  refine q_Msg_41 C.1 (pc := 20) d_Msg_requestSeal_20 (c_Msg_stir l ) ⟨Nat.le_of_ble_eq_true rfl, Nat.le_of_ble_eq_true rfl⟩ ⟨Nat.zero_le _, Nat.zero_le _⟩ (Nat.le_of_ble_eq_true rfl) ?_
  refine rx_istore_n C.1 (pc := 23) d_Msg_requestSeal_23 (by decide) ?_
  refine rx_iload_n C.1 (pc := 24) d_Msg_requestSeal_24 rfl ?_
  refine rx_aload_n C.1 (pc := 25) d_Msg_requestSeal_25 rfl ?_
  refine g_Msg_33 D b ca C (by first | assumption | (constructor <;> omega) | omega | decide) (pc := 26) d_Msg_requestSeal_26 ?_
  refine q_Msg_41 C.1 (pc := 29) d_Msg_requestSeal_29 (c_Msg_stir l ) ⟨Nat.le_of_ble_eq_true rfl, Nat.le_of_ble_eq_true rfl⟩ ⟨Nat.zero_le _, Nat.zero_le _⟩ (Nat.le_of_ble_eq_true rfl) ?_
  refine rx_istore_n C.1 (pc := 32) d_Msg_requestSeal_32 (by decide) ?_
  refine rx_iload_n C.1 (pc := 33) d_Msg_requestSeal_33 rfl ?_
  refine rx_aload_n C.1 (pc := 34) d_Msg_requestSeal_34 rfl ?_
  refine g_Msg_21 D b ca C (by first | assumption | (constructor <;> omega) | omega | decide) (pc := 35) d_Msg_requestSeal_35 ?_
  refine q_Msg_41 C.1 (pc := 38) d_Msg_requestSeal_38 (c_Msg_stir l ) ⟨Nat.le_of_ble_eq_true rfl, Nat.le_of_ble_eq_true rfl⟩ ⟨Nat.zero_le _, Nat.zero_le _⟩ (Nat.le_of_ble_eq_true rfl) ?_
  exact rx_iret C (pc := 41) d_Msg_requestSeal_41 (by first | rfl | (unfold rv_Msg_requestSeal; rfl)) rfl

def rv_Msg_replySeal (σ : rMem) (q : Nat) (h : Int32) : Int32 := (rv_Msg_stir (rv_Msg_stir (rv_Msg_stir (rv_Msg_stir (rv_Msg_stir (rv_Msg_stir h 3) (σ q 3)) (σ q 5)) (σ q 6)) (σ q 7)) (σ q 4))
set_option maxHeartbeats 4000000 in
set_option maxRecDepth 100000 in
theorem c_Msg_replySeal (l : Launch) (D : va_G) (b : Nat) (ca : Nat → ClassId) {σ : rMem} {q : Nat} (hq : 3 ≤ q ∧ q < 45) {h : Int32} : rx_C l (rx_fin D b ca) y_Msg_replySeal b_Msg_replySeal 3 (some .int) (rx_rm 1) [.ref (rg_A (rx_fin D b ca) q), .int h] σ (some (.int (rv_Msg_replySeal σ q h))) σ := by
  refine rx_of (lo := [(0, .ref (rg_A (rx_fin D b ca) q)), (1, .int h)]) (by decide) (rx_fin_D D b ca) rfl (Nat.le_of_ble_eq_true rfl) rfl ?_
  intro p e s mm below meth c C
  refine rx_iload_n C.1 (pc := 0) d_Msg_replySeal_0 rfl ?_
  refine rx_iconst C.1 (v := 3) (pc := 1) d_Msg_replySeal_1 (by decide) ?_
  refine q_Msg_41 C.1 (pc := 2) d_Msg_replySeal_2 (c_Msg_stir l ) ⟨Nat.le_of_ble_eq_true rfl, Nat.le_of_ble_eq_true rfl⟩ ⟨Nat.zero_le _, Nat.zero_le _⟩ (Nat.le_of_ble_eq_true rfl) ?_
  refine rx_istore_n C.1 (pc := 5) d_Msg_replySeal_5 (by decide) ?_
  refine rx_iload_n C.1 (pc := 6) d_Msg_replySeal_6 rfl ?_
  refine rx_aload_n C.1 (pc := 7) d_Msg_replySeal_7 rfl ?_
  refine g_Msg_18 D b ca C (by first | assumption | (constructor <;> omega) | omega | decide) (pc := 8) d_Msg_replySeal_8 ?_
  refine q_Msg_41 C.1 (pc := 11) d_Msg_replySeal_11 (c_Msg_stir l ) ⟨Nat.le_of_ble_eq_true rfl, Nat.le_of_ble_eq_true rfl⟩ ⟨Nat.zero_le _, Nat.zero_le _⟩ (Nat.le_of_ble_eq_true rfl) ?_
  refine rx_istore_n C.1 (pc := 14) d_Msg_replySeal_14 (by decide) ?_
  refine rx_iload_n C.1 (pc := 15) d_Msg_replySeal_15 rfl ?_
  refine rx_aload_n C.1 (pc := 16) d_Msg_replySeal_16 rfl ?_
  refine g_Msg_27 D b ca C (by first | assumption | (constructor <;> omega) | omega | decide) (pc := 17) d_Msg_replySeal_17 ?_
  refine q_Msg_41 C.1 (pc := 20) d_Msg_replySeal_20 (c_Msg_stir l ) ⟨Nat.le_of_ble_eq_true rfl, Nat.le_of_ble_eq_true rfl⟩ ⟨Nat.zero_le _, Nat.zero_le _⟩ (Nat.le_of_ble_eq_true rfl) ?_
  refine rx_istore_n C.1 (pc := 23) d_Msg_replySeal_23 (by decide) ?_
  refine rx_iload_n C.1 (pc := 24) d_Msg_replySeal_24 rfl ?_
  refine rx_aload_n C.1 (pc := 25) d_Msg_replySeal_25 rfl ?_
  refine g_Msg_30 D b ca C (by first | assumption | (constructor <;> omega) | omega | decide) (pc := 26) d_Msg_replySeal_26 ?_
  refine q_Msg_41 C.1 (pc := 29) d_Msg_replySeal_29 (c_Msg_stir l ) ⟨Nat.le_of_ble_eq_true rfl, Nat.le_of_ble_eq_true rfl⟩ ⟨Nat.zero_le _, Nat.zero_le _⟩ (Nat.le_of_ble_eq_true rfl) ?_
  refine rx_istore_n C.1 (pc := 32) d_Msg_replySeal_32 (by decide) ?_
  refine rx_iload_n C.1 (pc := 33) d_Msg_replySeal_33 rfl ?_
  refine rx_aload_n C.1 (pc := 34) d_Msg_replySeal_34 rfl ?_
  refine g_Msg_33 D b ca C (by first | assumption | (constructor <;> omega) | omega | decide) (pc := 35) d_Msg_replySeal_35 ?_
  refine q_Msg_41 C.1 (pc := 38) d_Msg_replySeal_38 (c_Msg_stir l ) ⟨Nat.le_of_ble_eq_true rfl, Nat.le_of_ble_eq_true rfl⟩ ⟨Nat.zero_le _, Nat.zero_le _⟩ (Nat.le_of_ble_eq_true rfl) ?_
  refine rx_istore_n C.1 (pc := 41) d_Msg_replySeal_41 (by decide) ?_
  refine rx_iload_n C.1 (pc := 42) d_Msg_replySeal_42 rfl ?_
  refine rx_aload_n C.1 (pc := 43) d_Msg_replySeal_43 rfl ?_
  refine g_Msg_21 D b ca C (by first | assumption | (constructor <;> omega) | omega | decide) (pc := 44) d_Msg_replySeal_44 ?_
  refine q_Msg_41 C.1 (pc := 47) d_Msg_replySeal_47 (c_Msg_stir l ) ⟨Nat.le_of_ble_eq_true rfl, Nat.le_of_ble_eq_true rfl⟩ ⟨Nat.zero_le _, Nat.zero_le _⟩ (Nat.le_of_ble_eq_true rfl) ?_
  exact rx_iret C (pc := 50) d_Msg_replySeal_50 (by first | rfl | (unfold rv_Msg_replySeal; rfl)) rfl

def rv_Wire_holds (σ : rMem) (i : Int32) : Int32 := if i < 0 then 0 else (if (σ 1 1) ≤ i then 0 else 1)
set_option maxHeartbeats 4000000 in
set_option maxRecDepth 100000 in
theorem c_Wire_holds (l : Launch) (D : va_G) (b : Nat) (ca : Nat → ClassId) {σ : rMem} {i : Int32} : rx_C l (rx_fin D b ca) y_Wire_holds b_Wire_holds 2 (some .boolean) (rx_rm 0) [.ref (rg_A (rx_fin D b ca) 1), .int i] σ (some (.int (rv_Wire_holds σ i))) σ := by
  refine rx_of (lo := [(0, .ref (rg_A (rx_fin D b ca) 1)), (1, .int i)]) (by decide) (rx_fin_D D b ca) rfl (Nat.le_of_ble_eq_true rfl) rfl ?_
  intro p e s mm below meth c C
  refine rx_iload_n C.1 (pc := 0) d_Wire_holds_0 rfl ?_
  refine rx_if_lt C.1 (pc := 1) d_Wire_holds_1 (tgt := 16) rfl (fun h1 => ?_) (fun h1 => ?_)
  ·
    refine rx_iconst C.1 (v := 0) (pc := 16) d_Wire_holds_16 (by decide) ?_
    exact rx_zret C (pc := 17) d_Wire_holds_17 (Or.inl rfl) (by unfold rv_Wire_holds; first | (simp only [if_pos h1]; done) | (simp only [if_pos h1]; rfl)) rfl
  ·
    refine rx_iload_n C.1 (pc := 4) d_Wire_holds_4 rfl ?_
    refine rx_aload_n C.1 (pc := 5) d_Wire_holds_5 rfl ?_
    refine g_Wire_18 D b ca C (pc := 6) d_Wire_holds_6 ?_
    refine rx_icmp_ge C.1 (pc := 9) d_Wire_holds_9 (tgt := 16) rfl (fun h2 => ?_) (fun h2 => ?_)
    ·
      refine rx_iconst C.1 (v := 0) (pc := 16) d_Wire_holds_16 (by decide) ?_
      exact rx_zret C (pc := 17) d_Wire_holds_17 (Or.inl rfl) (by unfold rv_Wire_holds; first | (simp only [if_neg h1, if_pos h2]; done) | (simp only [if_neg h1, if_pos h2]; rfl)) rfl
    ·
      refine rx_iconst C.1 (v := 1) (pc := 12) d_Wire_holds_12 (by decide) ?_
      refine rx_goto C.1 (pc := 13) d_Wire_holds_13 (tgt := 17) rfl ?_
      exact rx_zret C (pc := 17) d_Wire_holds_17 (Or.inr rfl) (by unfold rv_Wire_holds; first | (simp only [if_neg h1, if_neg h2]; done) | (simp only [if_neg h1, if_neg h2]; rfl)) rfl

def rv_Wire_isFull (σ : rMem)  : Int32 := if (σ 1 1) < 40 then 0 else 1
set_option maxHeartbeats 4000000 in
set_option maxRecDepth 100000 in
theorem c_Wire_isFull (l : Launch) (D : va_G) (b : Nat) (ca : Nat → ClassId) {σ : rMem}  : rx_C l (rx_fin D b ca) y_Wire_isFull b_Wire_isFull 1 (some .boolean) (rx_rm 0) [.ref (rg_A (rx_fin D b ca) 1)] σ (some (.int (rv_Wire_isFull σ))) σ := by
  refine rx_of (lo := [(0, .ref (rg_A (rx_fin D b ca) 1))]) (by decide) (rx_fin_D D b ca) rfl (Nat.le_of_ble_eq_true rfl) rfl ?_
  intro p e s mm below meth c C
  refine rx_aload_n C.1 (pc := 0) d_Wire_isFull_0 rfl ?_
  refine g_Wire_18 D b ca C (pc := 1) d_Wire_isFull_1 ?_
  refine rx_bipush C.1 (v := 40) (pc := 4) d_Wire_isFull_4 (by decide) ?_
  refine rx_icmp_lt C.1 (pc := 6) d_Wire_isFull_6 (tgt := 13) rfl (fun h1 => ?_) (fun h1 => ?_)
  ·
    refine rx_iconst C.1 (v := 0) (pc := 13) d_Wire_isFull_13 (by decide) ?_
    exact rx_zret C (pc := 14) d_Wire_isFull_14 (Or.inl rfl) (by unfold rv_Wire_isFull; first | (simp only [if_pos h1]; done) | (simp only [if_pos h1]; rfl)) rfl
  ·
    refine rx_iconst C.1 (v := 1) (pc := 9) d_Wire_isFull_9 (by decide) ?_
    refine rx_goto C.1 (pc := 10) d_Wire_isFull_10 (tgt := 14) rfl ?_
    exact rx_zret C (pc := 14) d_Wire_isFull_14 (Or.inr rfl) (by unfold rv_Wire_isFull; first | (simp only [if_neg h1]; done) | (simp only [if_neg h1]; rfl)) rfl

theorem nx_full {σ : rMem} (h : rv_Wire_isFull σ = 0) : (σ 1 1).toInt < 40 := by
  unfold rv_Wire_isFull at h
  by_cases h1 : σ 1 1 < 40
  · have h2 := rx_ltI.mp h1
    rw [rx_I40] at h2
    exact h2
  · rw [if_neg h1] at h
    exact absurd h (by decide)
theorem nx_inc {σ : rMem} (hI : rx_SI σ) (h : rv_Wire_isFull σ = 0) : (σ 1 1 + 1).toInt = (σ 1 1).toInt + 1 := by
  have h1 := nx_full h
  have h2 := hI.1
  rw [rx_addI (by rw [rx_I1]; omega) (by rw [rx_I1]; omega), rx_I1]
theorem nx_size {σ : rMem} (hI : rx_SI σ) (h : rv_Wire_isFull σ = 0) : 0 ≤ (σ 1 1 + 1).toInt ∧ (σ 1 1 + 1).toInt ≤ 40 := by
  have h1 := nx_full h
  have h2 := hI.1
  rw [nx_inc hI h]
  omega
theorem nx_dec {σ : rMem} (hI : rx_SI σ) (h : rv_Wire_isFull σ = 0) : rx_wr σ 1 1 (σ 1 1 + 1) 1 1 - 1 = σ 1 1 := by
  have h1 := nx_full h
  have h2 := hI.1
  have h3 := nx_inc hI h
  rw [rx_wr_eq, rx_eqI, rx_subI (by rw [rx_I1]; omega) (by rw [rx_I1]; omega), rx_I1]
  omega
theorem nx_ix {σ : rMem} (hI : rx_SI σ) (h : rv_Wire_isFull σ = 0) : vp_in (rx_wr σ 1 1 (σ 1 1 + 1) 1 1 - 1) 41 := by
  have h1 := nx_full h
  have h2 := hI.1
  rw [nx_dec hI h]
  exact rx_vinI (by omega) (by omega)
theorem nx_v40 : vp_in 40 41 := vp_in_iff.mpr (by decide)
def sp_Wire_nextRow (σ : rMem)  : rMem × Nat := if (rv_Wire_isFull σ) = 0 then (let m1 := rx_wr σ 1 1 ((σ 1 1) + 1); (m1, (2 + (m1 2 ((m1 1 1) - 1).toNatClampNeg).toNatClampNeg))) else (σ, (2 + (σ 2 (Int32.toNatClampNeg 40)).toNatClampNeg))
set_option maxHeartbeats 4000000 in
set_option maxRecDepth 100000 in
theorem c_Wire_nextRow (l : Launch) (D : va_G) (b : Nat) (ca : Nat → ClassId) {σ : rMem}  : rx_C l (rx_fin D b ca) y_Wire_nextRow b_Wire_nextRow 1 (some (.object "RoamingNet$Message")) (rx_rm 1) [.ref (rg_A (rx_fin D b ca) 1)] σ (some (.ref (rg_A (rx_fin D b ca) (sp_Wire_nextRow σ).2))) (sp_Wire_nextRow σ).1 := by
  refine rx_of (lo := [(0, .ref (rg_A (rx_fin D b ca) 1))]) (by decide) (rx_fin_D D b ca) rfl (Nat.le_of_ble_eq_true rfl) rfl ?_
  intro p e s mm below meth c C
  refine rx_aload_n C.1 (pc := 0) d_Wire_nextRow_0 rfl ?_
  refine q_Wire_22 D b ca C (pc := 1) d_Wire_nextRow_1 (c_Wire_isFull l D b ca ) ⟨Nat.le_of_ble_eq_true rfl, Nat.le_of_ble_eq_true rfl⟩ ⟨Nat.zero_le _, Nat.zero_le _⟩ (Nat.le_of_ble_eq_true rfl) ?_
  refine rx_if_eq C.1 (pc := 4) d_Wire_nextRow_4 (tgt := 15) rfl (fun h1 => ?_) (fun h1 => ?_)
  ·
    refine rx_aload_n C.1 (pc := 15) d_Wire_nextRow_15 rfl ?_
    refine rx_dup C.1 (pc := 16) d_Wire_nextRow_16 rfl ?_
    refine g_Wire_18 D b ca C (pc := 17) d_Wire_nextRow_17 ?_
    refine rx_iconst C.1 (v := 1) (pc := 20) d_Wire_nextRow_20 (by decide) ?_
    refine rx_iadd C.1 (pc := 21) d_Wire_nextRow_21 ?_
    refine rx_si (fun hI => ?_)
    have hz1 := nx_size hI h1
    refine p_Wire_18 D b ca C (pc := 22) d_Wire_nextRow_22 (by assumption) ?_
    refine rx_aload_n C.1 (pc := 25) d_Wire_nextRow_25 rfl ?_
    refine g_Wire_11 D b ca C (pc := 26) d_Wire_nextRow_26 ?_
    refine rx_aload_n C.1 (pc := 29) d_Wire_nextRow_29 rfl ?_
    refine g_Wire_18 D b ca C (pc := 30) d_Wire_nextRow_30 ?_
    refine rx_iconst C.1 (v := 1) (pc := 33) d_Wire_nextRow_33 (by decide) ?_
    refine rx_isub C.1 (pc := 34) d_Wire_nextRow_34 ?_
    have hz2 := nx_ix hI h1
    refine rx_ald_rows D b ca C (pc := 35) d_Wire_nextRow_35 (by first | assumption | exact rx_in2 (by assumption) | exact rx_v02 | exact rx_v12 | exact vp_in_iff.mpr (by decide)) ?_
    exact rx_aret C (pc := 36) d_Wire_nextRow_36 (by unfold sp_Wire_nextRow; first | (simp only [if_pos h1]; done) | (simp only [if_pos h1]; rfl)) (by unfold sp_Wire_nextRow; first | (simp only [if_pos h1]; done) | (simp only [if_pos h1]; rfl))
  ·
    refine rx_aload_n C.1 (pc := 7) d_Wire_nextRow_7 rfl ?_
    refine g_Wire_11 D b ca C (pc := 8) d_Wire_nextRow_8 ?_
    refine rx_bipush C.1 (v := 40) (pc := 11) d_Wire_nextRow_11 (by decide) ?_
    refine rx_ald_rows D b ca C (pc := 13) d_Wire_nextRow_13 nx_v40 ?_
    exact rx_aret C (pc := 14) d_Wire_nextRow_14 (by unfold sp_Wire_nextRow; first | (simp only [if_neg h1]; done) | (simp only [if_neg h1]; rfl)) (by unfold sp_Wire_nextRow; first | (simp only [if_neg h1]; done) | (simp only [if_neg h1]; rfl))
theorem rq_Wire_nextRow {σ : rMem} (hI : rx_SI σ) : 3 ≤ (sp_Wire_nextRow σ).2 ∧ (sp_Wire_nextRow σ).2 < 45 := by
  unfold sp_Wire_nextRow
  by_cases h : rv_Wire_isFull σ = 0
  · rw [if_pos h]
    show 3 ≤ 2 + (rx_wr σ 1 1 (σ 1 1 + 1) 2 (rx_wr σ 1 1 (σ 1 1 + 1) 1 1 - 1).toNatClampNeg).toNatClampNeg ∧ _
    have h1 := rx_vn (nx_ix hI h)
    rw [rx_wr_ne (a := 2) (by decide)]
    exact rx_rowq hI h1
  · rw [if_neg h]
    exact rx_rowq hI (k := 40) (by decide)

def sp_Wire_sendTo (σ : rMem) (tg : Int32) (kd : Int32) (mo : Int32) (nu : Int32) : rMem × Nat := let m1 := (sp_Wire_nextRow σ).1; let m2 := sp_Msg_begin m1 ((sp_Wire_nextRow σ).2) kd tg mo nu; (m2, (sp_Wire_nextRow σ).2)
set_option maxHeartbeats 4000000 in
set_option maxRecDepth 100000 in
theorem c_Wire_sendTo (l : Launch) (D : va_G) (b : Nat) (ca : Nat → ClassId) {σ : rMem} {tg : Int32} {kd : Int32} {mo : Int32} {nu : Int32} : rx_C l (rx_fin D b ca) y_Wire_sendTo b_Wire_sendTo 6 (some (.object "RoamingNet$Message")) (rx_rm 2) [.ref (rg_A (rx_fin D b ca) 1), .int tg, .int kd, .int mo, .int nu] σ (some (.ref (rg_A (rx_fin D b ca) (sp_Wire_sendTo σ tg kd mo nu).2))) (sp_Wire_sendTo σ tg kd mo nu).1 := by
  refine rx_of (lo := [(0, .ref (rg_A (rx_fin D b ca) 1)), (1, .int tg), (2, .int kd), (3, .int mo), (4, .int nu)]) (by decide) (rx_fin_D D b ca) rfl (Nat.le_of_ble_eq_true rfl) rfl ?_
  intro p e s mm below meth c C
  refine rx_aload_n C.1 (pc := 0) d_Wire_sendTo_0 rfl ?_
  refine q_Wire_26 D b ca C (pc := 1) d_Wire_sendTo_1 (c_Wire_nextRow l D b ca ) (fun hI => rq_Wire_nextRow hI) ⟨Nat.le_of_ble_eq_true rfl, Nat.le_of_ble_eq_true rfl⟩ ⟨Nat.zero_le _, Nat.zero_le _⟩ (Nat.le_of_ble_eq_true rfl) (fun hq1 => ?_)
  refine rx_astore C.1 (pc := 4) d_Wire_sendTo_4 (by decide) ?_
  refine rx_aload C.1 (pc := 6) d_Wire_sendTo_6 rfl ?_
  refine rx_iload_n C.1 (pc := 8) d_Wire_sendTo_8 rfl ?_
  refine rx_iload_n C.1 (pc := 9) d_Wire_sendTo_9 rfl ?_
  refine rx_iload_n C.1 (pc := 10) d_Wire_sendTo_10 rfl ?_
  refine rx_iload C.1 (pc := 11) d_Wire_sendTo_11 rfl ?_
  refine q_Wire_30 D b ca C (by first | assumption | (constructor <;> omega) | omega | decide) (pc := 13) d_Wire_sendTo_13 (c_Msg_begin l D b ca (by first | assumption | (constructor <;> omega) | omega | decide) ) ⟨Nat.le_of_ble_eq_true rfl, Nat.le_of_ble_eq_true rfl⟩ ⟨Nat.zero_le _, Nat.zero_le _⟩ (Nat.le_of_ble_eq_true rfl) ?_
  refine rx_aload C.1 (pc := 16) d_Wire_sendTo_16 rfl ?_
  exact rx_aret C (pc := 18) d_Wire_sendTo_18 (by first | rfl | (unfold sp_Wire_sendTo; rfl)) (by first | rfl | (unfold sp_Wire_sendTo; rfl))
theorem rq_Wire_sendTo {σ : rMem} {tg kd mo nu : Int32} (hI : rx_SI σ) : 3 ≤ (sp_Wire_sendTo σ tg kd mo nu).2 ∧ (sp_Wire_sendTo σ tg kd mo nu).2 < 45 := rq_Wire_nextRow hI

def sp_Wire_sendInNetwork (σ : rMem) (nw : Int32) (kd : Int32) (mo : Int32) (nu : Int32) : rMem × Nat := let m1 := (sp_Wire_sendTo σ 5 kd mo nu).1; let m2 := rx_wr m1 ((sp_Wire_sendTo σ 5 kd mo nu).2) 2 nw; (m2, (sp_Wire_sendTo σ 5 kd mo nu).2)
set_option maxHeartbeats 4000000 in
set_option maxRecDepth 100000 in
theorem c_Wire_sendInNetwork (l : Launch) (D : va_G) (b : Nat) (ca : Nat → ClassId) {σ : rMem} {nw : Int32} {kd : Int32} {mo : Int32} {nu : Int32} : rx_C l (rx_fin D b ca) y_Wire_sendInNetwork b_Wire_sendInNetwork 6 (some (.object "RoamingNet$Message")) (rx_rm 3) [.ref (rg_A (rx_fin D b ca) 1), .int nw, .int kd, .int mo, .int nu] σ (some (.ref (rg_A (rx_fin D b ca) (sp_Wire_sendInNetwork σ nw kd mo nu).2))) (sp_Wire_sendInNetwork σ nw kd mo nu).1 := by
  refine rx_of (lo := [(0, .ref (rg_A (rx_fin D b ca) 1)), (1, .int nw), (2, .int kd), (3, .int mo), (4, .int nu)]) (by decide) (rx_fin_D D b ca) rfl (Nat.le_of_ble_eq_true rfl) rfl ?_
  intro p e s mm below meth c C
  refine rx_aload_n C.1 (pc := 0) d_Wire_sendInNetwork_0 rfl ?_
  refine rx_iconst C.1 (v := 5) (pc := 1) d_Wire_sendInNetwork_1 (by decide) ?_
  refine rx_iload_n C.1 (pc := 2) d_Wire_sendInNetwork_2 rfl ?_
  refine rx_iload_n C.1 (pc := 3) d_Wire_sendInNetwork_3 rfl ?_
  refine rx_iload C.1 (pc := 4) d_Wire_sendInNetwork_4 rfl ?_
  refine q_Wire_34 D b ca C (pc := 6) d_Wire_sendInNetwork_6 (c_Wire_sendTo l D b ca ) (fun hI => rq_Wire_sendTo hI) ⟨Nat.le_of_ble_eq_true rfl, Nat.le_of_ble_eq_true rfl⟩ ⟨Nat.zero_le _, Nat.zero_le _⟩ (Nat.le_of_ble_eq_true rfl) (fun hq1 => ?_)
  refine rx_astore C.1 (pc := 9) d_Wire_sendInNetwork_9 (by decide) ?_
  refine rx_aload C.1 (pc := 11) d_Wire_sendInNetwork_11 rfl ?_
  refine rx_iload_n C.1 (pc := 13) d_Wire_sendInNetwork_13 rfl ?_
  refine p_Wire_38 D b ca C (by first | assumption | (constructor <;> omega) | omega | decide) (pc := 14) d_Wire_sendInNetwork_14 ?_
  refine rx_aload C.1 (pc := 17) d_Wire_sendInNetwork_17 rfl ?_
  exact rx_aret C (pc := 19) d_Wire_sendInNetwork_19 (by first | rfl | (unfold sp_Wire_sendInNetwork; rfl)) (by first | rfl | (unfold sp_Wire_sendInNetwork; rfl))
theorem rq_Wire_sendInNetwork {σ : rMem} {nw kd mo nu : Int32} (hI : rx_SI σ) : 3 ≤ (sp_Wire_sendInNetwork σ nw kd mo nu).2 ∧ (sp_Wire_sendInNetwork σ nw kd mo nu).2 < 45 := rq_Wire_nextRow hI

def sp_Wire_sendOn (σ : rMem) (r : Nat) (tg : Int32) (nw : Int32) : rMem := let m1 := (sp_Wire_nextRow σ).1; let m2 := sp_Msg_copyFrom m1 ((sp_Wire_nextRow σ).2) r; let m3 := rx_wr m2 ((sp_Wire_nextRow σ).2) 1 tg; let m4 := rx_wr m3 ((sp_Wire_nextRow σ).2) 2 nw; m4
set_option maxHeartbeats 4000000 in
set_option maxRecDepth 100000 in
theorem c_Wire_sendOn (l : Launch) (D : va_G) (b : Nat) (ca : Nat → ClassId) {σ : rMem} {r : Nat} {tg : Int32} {nw : Int32} (hr : 3 ≤ r ∧ r < 45) : rx_C l (rx_fin D b ca) y_Wire_sendOn b_Wire_sendOn 5 none (rx_rm 2) [.ref (rg_A (rx_fin D b ca) 1), .ref (rg_A (rx_fin D b ca) r), .int tg, .int nw] σ none (sp_Wire_sendOn σ r tg nw) := by
  refine rx_of (lo := [(0, .ref (rg_A (rx_fin D b ca) 1)), (1, .ref (rg_A (rx_fin D b ca) r)), (2, .int tg), (3, .int nw)]) (by decide) (rx_fin_D D b ca) rfl (Nat.le_of_ble_eq_true rfl) rfl ?_
  intro p e s mm below meth c C
  refine rx_aload_n C.1 (pc := 0) d_Wire_sendOn_0 rfl ?_
  refine q_Wire_26 D b ca C (pc := 1) d_Wire_sendOn_1 (c_Wire_nextRow l D b ca ) (fun hI => rq_Wire_nextRow hI) ⟨Nat.le_of_ble_eq_true rfl, Nat.le_of_ble_eq_true rfl⟩ ⟨Nat.zero_le _, Nat.zero_le _⟩ (Nat.le_of_ble_eq_true rfl) (fun hq1 => ?_)
  refine rx_astore C.1 (pc := 4) d_Wire_sendOn_4 (by decide) ?_
  refine rx_aload C.1 (pc := 6) d_Wire_sendOn_6 rfl ?_
  refine rx_aload_n C.1 (pc := 8) d_Wire_sendOn_8 rfl ?_
  refine q_Wire_41 D b ca C (by first | assumption | (constructor <;> omega) | omega | decide) (pc := 9) d_Wire_sendOn_9 (c_Msg_copyFrom l D b ca (by first | assumption | (constructor <;> omega) | omega | decide) (by first | assumption | exact rx_iM0 | exact rx_iM1 | (constructor <;> omega))) ⟨Nat.le_of_ble_eq_true rfl, Nat.le_of_ble_eq_true rfl⟩ ⟨Nat.zero_le _, Nat.zero_le _⟩ (Nat.le_of_ble_eq_true rfl) ?_
  refine rx_aload C.1 (pc := 12) d_Wire_sendOn_12 rfl ?_
  refine rx_iload_n C.1 (pc := 14) d_Wire_sendOn_14 rfl ?_
  refine p_Wire_45 D b ca C (by first | assumption | (constructor <;> omega) | omega | decide) (pc := 15) d_Wire_sendOn_15 ?_
  refine rx_aload C.1 (pc := 18) d_Wire_sendOn_18 rfl ?_
  refine rx_iload_n C.1 (pc := 20) d_Wire_sendOn_20 rfl ?_
  refine p_Wire_38 D b ca C (by first | assumption | (constructor <;> omega) | omega | decide) (pc := 21) d_Wire_sendOn_21 ?_
  exact rx_vret C (pc := 24) d_Wire_sendOn_24 (by first | rfl | (unfold sp_Wire_sendOn; rfl))

def rv_Mob_endsSoon (σ : rMem) (j : Nat) : Int32 := if (σ (46 + j) 6) = 0 then 0 else (if ((σ 1 2) + 4) < (σ (46 + j) 7) then 0 else 1)
set_option maxHeartbeats 4000000 in
set_option maxRecDepth 100000 in
theorem c_Mob_endsSoon (l : Launch) (D : va_G) (b : Nat) (ca : Nat → ClassId) {σ : rMem} {j : Nat} (hj : j < 2) : rx_C l (rx_fin D b ca) y_Mob_endsSoon b_Mob_endsSoon 1 (some .boolean) (rx_rm 0) [.ref (rg_A (rx_fin D b ca) (46 + j))] σ (some (.int (rv_Mob_endsSoon σ j))) σ := by
  refine rx_of (lo := [(0, .ref (rg_A (rx_fin D b ca) (46 + j)))]) (by decide) (rx_fin_D D b ca) rfl (Nat.le_of_ble_eq_true rfl) rfl ?_
  intro p e s mm below meth c C
  refine rx_aload_n C.1 (pc := 0) d_Mob_endsSoon_0 rfl ?_
  refine g_Mob_22 D b ca C (by first | assumption | (constructor <;> omega) | omega | decide) (pc := 1) d_Mob_endsSoon_1 ?_
  refine rx_if_eq C.1 (pc := 4) d_Mob_endsSoon_4 (tgt := 27) rfl (fun h1 => ?_) (fun h1 => ?_)
  ·
    refine rx_iconst C.1 (v := 0) (pc := 27) d_Mob_endsSoon_27 (by decide) ?_
    exact rx_zret C (pc := 28) d_Mob_endsSoon_28 (Or.inl rfl) (by unfold rv_Mob_endsSoon; first | (simp only [if_pos h1]; done) | (simp only [if_pos h1]; rfl)) rfl
  ·
    refine rx_aload_n C.1 (pc := 7) d_Mob_endsSoon_7 rfl ?_
    refine g_Mob_26 D b ca C (by first | assumption | (constructor <;> omega) | omega | decide) (pc := 8) d_Mob_endsSoon_8 ?_
    refine rx_aload_n C.1 (pc := 11) d_Mob_endsSoon_11 rfl ?_
    refine g_Mob_18 D b ca C (by first | assumption | (constructor <;> omega) | omega | decide) (pc := 12) d_Mob_endsSoon_12 ?_
    refine g_Mob_55 D b ca C (pc := 15) d_Mob_endsSoon_15 ?_
    refine rx_iconst C.1 (v := 4) (pc := 18) d_Mob_endsSoon_18 (by decide) ?_
    refine rx_iadd C.1 (pc := 19) d_Mob_endsSoon_19 ?_
    refine rx_icmp_gt C.1 (pc := 20) d_Mob_endsSoon_20 (tgt := 27) rfl (fun h2 => ?_) (fun h2 => ?_)
    ·
      refine rx_iconst C.1 (v := 0) (pc := 27) d_Mob_endsSoon_27 (by decide) ?_
      exact rx_zret C (pc := 28) d_Mob_endsSoon_28 (Or.inl rfl) (by unfold rv_Mob_endsSoon; first | (simp only [if_neg h1, if_pos h2]; done) | (simp only [if_neg h1, if_pos h2]; rfl)) rfl
    ·
      refine rx_iconst C.1 (v := 1) (pc := 23) d_Mob_endsSoon_23 (by decide) ?_
      refine rx_goto C.1 (pc := 24) d_Mob_endsSoon_24 (tgt := 28) rfl ?_
      exact rx_zret C (pc := 28) d_Mob_endsSoon_28 (Or.inr rfl) (by unfold rv_Mob_endsSoon; first | (simp only [if_neg h1, if_neg h2]; done) | (simp only [if_neg h1, if_neg h2]; rfl)) rfl

def sp_Mob_registerWith (σ : rMem) (j : Nat) (a : Int32) : rMem := let m1 := rx_wr σ (46 + j) 5 ((σ (46 + j) 5) + 1); let m2 := (sp_Wire_sendTo m1 a 2 (m1 (46 + j) 0) (m1 (46 + j) 5)).1; let m3 := rx_wr m2 ((sp_Wire_sendTo m1 a 2 (m1 (46 + j) 0) (m1 (46 + j) 5)).2) 5 a; if a = 0 then (let m9 := rx_wr m3 ((sp_Wire_sendTo m1 a 2 (m1 (46 + j) 0) (m1 (46 + j) 5)).2) 7 0; let m10 := rx_wr m9 ((sp_Wire_sendTo m1 a 2 (m1 (46 + j) 0) (m1 (46 + j) 5)).2) 8 (rv_Msg_requestSeal m9 ((sp_Wire_sendTo m1 a 2 (m1 (46 + j) 0) (m1 (46 + j) 5)).2) (m9 (46 + j) 3)); let m11 := rx_wr m10 (46 + j) 10 (m10 (46 + j) 5); let m12 := rx_wr m11 (46 + j) 11 a; let m13 := rx_wr m12 (46 + j) 12 (m12 1 2); m13) else (let m4 := rx_wr m3 ((sp_Wire_sendTo m1 a 2 (m1 (46 + j) 0) (m1 (46 + j) 5)).2) 7 (m3 (46 + j) 1); let m5 := rx_wr m4 ((sp_Wire_sendTo m1 a 2 (m1 (46 + j) 0) (m1 (46 + j) 5)).2) 8 (rv_Msg_requestSeal m4 ((sp_Wire_sendTo m1 a 2 (m1 (46 + j) 0) (m1 (46 + j) 5)).2) (m4 (46 + j) 3)); let m6 := rx_wr m5 (46 + j) 10 (m5 (46 + j) 5); let m7 := rx_wr m6 (46 + j) 11 a; let m8 := rx_wr m7 (46 + j) 12 (m7 1 2); m8)
set_option maxHeartbeats 4000000 in
set_option maxRecDepth 100000 in
theorem c_Mob_registerWith (l : Launch) (D : va_G) (b : Nat) (ca : Nat → ClassId) {σ : rMem} {j : Nat} (hj : j < 2) {a : Int32} : rx_C l (rx_fin D b ca) y_Mob_registerWith b_Mob_registerWith 3 none (rx_rm 3) [.ref (rg_A (rx_fin D b ca) (46 + j)), .int a] σ none (sp_Mob_registerWith σ j a) := by
  refine rx_of (lo := [(0, .ref (rg_A (rx_fin D b ca) (46 + j))), (1, .int a)]) (by decide) (rx_fin_D D b ca) rfl (Nat.le_of_ble_eq_true rfl) rfl ?_
  intro p e s mm below meth c C
  refine rx_aload_n C.1 (pc := 0) d_Mob_registerWith_0 rfl ?_
  refine rx_dup C.1 (pc := 1) d_Mob_registerWith_1 rfl ?_
  refine g_Mob_76 D b ca C (by first | assumption | (constructor <;> omega) | omega | decide) (pc := 2) d_Mob_registerWith_2 ?_
  refine rx_iconst C.1 (v := 1) (pc := 5) d_Mob_registerWith_5 (by decide) ?_
  refine rx_iadd C.1 (pc := 6) d_Mob_registerWith_6 ?_
  refine p_Mob_76 D b ca C (by first | assumption | (constructor <;> omega) | omega | decide) (pc := 7) d_Mob_registerWith_7 ?_
  refine rx_aload_n C.1 (pc := 10) d_Mob_registerWith_10 rfl ?_
  refine g_Mob_18 D b ca C (by first | assumption | (constructor <;> omega) | omega | decide) (pc := 11) d_Mob_registerWith_11 ?_
  refine rx_iload_n C.1 (pc := 14) d_Mob_registerWith_14 rfl ?_
  refine rx_iconst C.1 (v := 2) (pc := 15) d_Mob_registerWith_15 (by decide) ?_
  refine rx_aload_n C.1 (pc := 16) d_Mob_registerWith_16 rfl ?_
  refine g_Mob_9 D b ca C (by first | assumption | (constructor <;> omega) | omega | decide) (pc := 17) d_Mob_registerWith_17 ?_
  refine rx_aload_n C.1 (pc := 20) d_Mob_registerWith_20 rfl ?_
  refine g_Mob_76 D b ca C (by first | assumption | (constructor <;> omega) | omega | decide) (pc := 21) d_Mob_registerWith_21 ?_
  refine q_Mob_79 D b ca C (pc := 24) d_Mob_registerWith_24 (c_Wire_sendTo l D b ca ) (fun hI => rq_Wire_sendTo hI) ⟨Nat.le_of_ble_eq_true rfl, Nat.le_of_ble_eq_true rfl⟩ ⟨Nat.zero_le _, Nat.zero_le _⟩ (Nat.le_of_ble_eq_true rfl) (fun hq1 => ?_)
  refine rx_astore_n C.1 (pc := 27) d_Mob_registerWith_27 (by decide) ?_
  refine rx_aload_n C.1 (pc := 28) d_Mob_registerWith_28 rfl ?_
  refine rx_iload_n C.1 (pc := 29) d_Mob_registerWith_29 rfl ?_
  refine p_Mob_83 D b ca C (by first | assumption | (constructor <;> omega) | omega | decide) (pc := 30) d_Mob_registerWith_30 ?_
  refine rx_aload_n C.1 (pc := 33) d_Mob_registerWith_33 rfl ?_
  refine rx_iload_n C.1 (pc := 34) d_Mob_registerWith_34 rfl ?_
  refine rx_if_ne C.1 (pc := 35) d_Mob_registerWith_35 (tgt := 42) rfl (fun h1 => ?_) (fun h1 => ?_)
  ·
    refine rx_aload_n C.1 (pc := 42) d_Mob_registerWith_42 rfl ?_
    refine g_Mob_15 D b ca C (by first | assumption | (constructor <;> omega) | omega | decide) (pc := 43) d_Mob_registerWith_43 ?_
    refine p_Mob_86 D b ca C (by first | assumption | (constructor <;> omega) | omega | decide) (pc := 46) d_Mob_registerWith_46 ?_
    refine rx_aload_n C.1 (pc := 49) d_Mob_registerWith_49 rfl ?_
    refine rx_aload_n C.1 (pc := 50) d_Mob_registerWith_50 rfl ?_
    refine rx_aload_n C.1 (pc := 51) d_Mob_registerWith_51 rfl ?_
    refine g_Mob_89 D b ca C (by first | assumption | (constructor <;> omega) | omega | decide) (pc := 52) d_Mob_registerWith_52 ?_
    refine q_Mob_92 D b ca C (by first | assumption | (constructor <;> omega) | omega | decide) (pc := 55) d_Mob_registerWith_55 (c_Msg_requestSeal l D b ca (by first | assumption | (constructor <;> omega) | omega | decide) ) ⟨Nat.le_of_ble_eq_true rfl, Nat.le_of_ble_eq_true rfl⟩ ⟨Nat.zero_le _, Nat.zero_le _⟩ (Nat.le_of_ble_eq_true rfl) ?_
    refine p_Mob_96 D b ca C (by first | assumption | (constructor <;> omega) | omega | decide) (pc := 58) d_Mob_registerWith_58 ?_
    refine rx_aload_n C.1 (pc := 61) d_Mob_registerWith_61 rfl ?_
    refine rx_aload_n C.1 (pc := 62) d_Mob_registerWith_62 rfl ?_
    refine g_Mob_76 D b ca C (by first | assumption | (constructor <;> omega) | omega | decide) (pc := 63) d_Mob_registerWith_63 ?_
    refine p_Mob_63 D b ca C (by first | assumption | (constructor <;> omega) | omega | decide) (pc := 66) d_Mob_registerWith_66 ?_
    refine rx_aload_n C.1 (pc := 69) d_Mob_registerWith_69 rfl ?_
    refine rx_iload_n C.1 (pc := 70) d_Mob_registerWith_70 rfl ?_
    refine p_Mob_66 D b ca C (by first | assumption | (constructor <;> omega) | omega | decide) (pc := 71) d_Mob_registerWith_71 ?_
    refine rx_aload_n C.1 (pc := 74) d_Mob_registerWith_74 rfl ?_
    refine rx_aload_n C.1 (pc := 75) d_Mob_registerWith_75 rfl ?_
    refine g_Mob_18 D b ca C (by first | assumption | (constructor <;> omega) | omega | decide) (pc := 76) d_Mob_registerWith_76 ?_
    refine g_Mob_55 D b ca C (pc := 79) d_Mob_registerWith_79 ?_
    refine p_Mob_99 D b ca C (by first | assumption | (constructor <;> omega) | omega | decide) (pc := 82) d_Mob_registerWith_82 ?_
    exact rx_vret C (pc := 85) d_Mob_registerWith_85 (by unfold sp_Mob_registerWith; first | (simp only [if_neg h1]; done) | (simp only [if_neg h1]; rfl))
  ·
    refine rx_iconst C.1 (v := 0) (pc := 38) d_Mob_registerWith_38 (by decide) ?_
    refine rx_goto C.1 (pc := 39) d_Mob_registerWith_39 (tgt := 46) rfl ?_
    refine p_Mob_86 D b ca C (by first | assumption | (constructor <;> omega) | omega | decide) (pc := 46) d_Mob_registerWith_46 ?_
    refine rx_aload_n C.1 (pc := 49) d_Mob_registerWith_49 rfl ?_
    refine rx_aload_n C.1 (pc := 50) d_Mob_registerWith_50 rfl ?_
    refine rx_aload_n C.1 (pc := 51) d_Mob_registerWith_51 rfl ?_
    refine g_Mob_89 D b ca C (by first | assumption | (constructor <;> omega) | omega | decide) (pc := 52) d_Mob_registerWith_52 ?_
    refine q_Mob_92 D b ca C (by first | assumption | (constructor <;> omega) | omega | decide) (pc := 55) d_Mob_registerWith_55 (c_Msg_requestSeal l D b ca (by first | assumption | (constructor <;> omega) | omega | decide) ) ⟨Nat.le_of_ble_eq_true rfl, Nat.le_of_ble_eq_true rfl⟩ ⟨Nat.zero_le _, Nat.zero_le _⟩ (Nat.le_of_ble_eq_true rfl) ?_
    refine p_Mob_96 D b ca C (by first | assumption | (constructor <;> omega) | omega | decide) (pc := 58) d_Mob_registerWith_58 ?_
    refine rx_aload_n C.1 (pc := 61) d_Mob_registerWith_61 rfl ?_
    refine rx_aload_n C.1 (pc := 62) d_Mob_registerWith_62 rfl ?_
    refine g_Mob_76 D b ca C (by first | assumption | (constructor <;> omega) | omega | decide) (pc := 63) d_Mob_registerWith_63 ?_
    refine p_Mob_63 D b ca C (by first | assumption | (constructor <;> omega) | omega | decide) (pc := 66) d_Mob_registerWith_66 ?_
    refine rx_aload_n C.1 (pc := 69) d_Mob_registerWith_69 rfl ?_
    refine rx_iload_n C.1 (pc := 70) d_Mob_registerWith_70 rfl ?_
    refine p_Mob_66 D b ca C (by first | assumption | (constructor <;> omega) | omega | decide) (pc := 71) d_Mob_registerWith_71 ?_
    refine rx_aload_n C.1 (pc := 74) d_Mob_registerWith_74 rfl ?_
    refine rx_aload_n C.1 (pc := 75) d_Mob_registerWith_75 rfl ?_
    refine g_Mob_18 D b ca C (by first | assumption | (constructor <;> omega) | omega | decide) (pc := 76) d_Mob_registerWith_76 ?_
    refine g_Mob_55 D b ca C (pc := 79) d_Mob_registerWith_79 ?_
    refine p_Mob_99 D b ca C (by first | assumption | (constructor <;> omega) | omega | decide) (pc := 82) d_Mob_registerWith_82 ?_
    exact rx_vret C (pc := 85) d_Mob_registerWith_85 (by unfold sp_Mob_registerWith; first | (simp only [if_pos h1]; done) | (simp only [if_pos h1]; rfl))

def sp_Mob_takeAdvert (σ : rMem) (j : Nat) (a : Int32) : rMem := let m1 := rx_wr σ (46 + j) 8 a; let m2 := rx_wr m1 (46 + j) 9 ((m1 1 2) + 12); if (m2 (46 + j) 10) = 0 then (if (m2 (46 + j) 6) = a then (if (rv_Mob_endsSoon m2 j) = 0 then m2 else (let m4 := sp_Mob_registerWith m2 j a; m4)) else (let m3 := sp_Mob_registerWith m2 j a; m3)) else (if (m2 (46 + j) 11) = a then (if (m2 (46 + j) 6) = a then (if (rv_Mob_endsSoon m2 j) = 0 then m2 else m2) else m2) else (if (m2 (46 + j) 6) = a then (if (rv_Mob_endsSoon m2 j) = 0 then m2 else (let m6 := sp_Mob_registerWith m2 j a; m6)) else (let m5 := sp_Mob_registerWith m2 j a; m5)))
set_option maxHeartbeats 4000000 in
set_option maxRecDepth 100000 in
theorem c_Mob_takeAdvert (l : Launch) (D : va_G) (b : Nat) (ca : Nat → ClassId) {σ : rMem} {j : Nat} (hj : j < 2) {a : Int32} : rx_C l (rx_fin D b ca) y_Mob_takeAdvert b_Mob_takeAdvert 3 none (rx_rm 4) [.ref (rg_A (rx_fin D b ca) (46 + j)), .int a] σ none (sp_Mob_takeAdvert σ j a) := by
  refine rx_of (lo := [(0, .ref (rg_A (rx_fin D b ca) (46 + j))), (1, .int a)]) (by decide) (rx_fin_D D b ca) rfl (Nat.le_of_ble_eq_true rfl) rfl ?_
  intro p e s mm below meth c C
  refine rx_aload_n C.1 (pc := 0) d_Mob_takeAdvert_0 rfl ?_
  refine rx_iload_n C.1 (pc := 1) d_Mob_takeAdvert_1 rfl ?_
  refine p_Mob_29 D b ca C (by first | assumption | (constructor <;> omega) | omega | decide) (pc := 2) d_Mob_takeAdvert_2 ?_
  refine rx_aload_n C.1 (pc := 5) d_Mob_takeAdvert_5 rfl ?_
  refine rx_aload_n C.1 (pc := 6) d_Mob_takeAdvert_6 rfl ?_
  refine g_Mob_18 D b ca C (by first | assumption | (constructor <;> omega) | omega | decide) (pc := 7) d_Mob_takeAdvert_7 ?_
  refine g_Mob_55 D b ca C (pc := 10) d_Mob_takeAdvert_10 ?_
  refine rx_bipush C.1 (v := 12) (pc := 13) d_Mob_takeAdvert_13 (by decide) ?_
  refine rx_iadd C.1 (pc := 15) d_Mob_takeAdvert_15 ?_
  refine p_Mob_60 D b ca C (by first | assumption | (constructor <;> omega) | omega | decide) (pc := 16) d_Mob_takeAdvert_16 ?_
  refine rx_aload_n C.1 (pc := 19) d_Mob_takeAdvert_19 rfl ?_
  refine g_Mob_63 D b ca C (by first | assumption | (constructor <;> omega) | omega | decide) (pc := 20) d_Mob_takeAdvert_20 ?_
  refine rx_if_eq C.1 (pc := 23) d_Mob_takeAdvert_23 (tgt := 38) rfl (fun h1 => ?_) (fun h1 => ?_)
  ·
    refine rx_iconst C.1 (v := 0) (pc := 38) d_Mob_takeAdvert_38 (by decide) ?_
    refine rx_istore_n C.1 (pc := 39) d_Mob_takeAdvert_39 (by decide) ?_
    refine rx_aload_n C.1 (pc := 40) d_Mob_takeAdvert_40 rfl ?_
    refine g_Mob_22 D b ca C (by first | assumption | (constructor <;> omega) | omega | decide) (pc := 41) d_Mob_takeAdvert_41 ?_
    refine rx_iload_n C.1 (pc := 44) d_Mob_takeAdvert_44 rfl ?_
    refine rx_icmp_ne C.1 (pc := 45) d_Mob_takeAdvert_45 (tgt := 55) rfl (fun h2 => ?_) (fun h2 => ?_)
    ·
      refine rx_iload_n C.1 (pc := 55) d_Mob_takeAdvert_55 rfl ?_
      refine rx_if_ne C.1 (pc := 56) d_Mob_takeAdvert_56 (tgt := 64) rfl (fun h9 => absurd h9 (by decide)) (fun _ => ?_)
      refine rx_aload_n C.1 (pc := 59) d_Mob_takeAdvert_59 rfl ?_
      refine rx_iload_n C.1 (pc := 60) d_Mob_takeAdvert_60 rfl ?_
      refine q_Mob_73 D b ca C (by first | assumption | (constructor <;> omega) | omega | decide) (pc := 61) d_Mob_takeAdvert_61 (c_Mob_registerWith l D b ca (by first | assumption | (constructor <;> omega) | omega | decide) ) ⟨Nat.le_of_ble_eq_true rfl, Nat.le_of_ble_eq_true rfl⟩ ⟨Nat.zero_le _, Nat.zero_le _⟩ (Nat.le_of_ble_eq_true rfl) ?_
      exact rx_vret C (pc := 64) d_Mob_takeAdvert_64 (by unfold sp_Mob_takeAdvert; first | (simp only [if_pos h1, if_neg h2]; done) | (simp only [if_pos h1, if_neg h2]; rfl))
    ·
      refine rx_aload_n C.1 (pc := 48) d_Mob_takeAdvert_48 rfl ?_
      refine q_Mob_69 D b ca C (by first | assumption | (constructor <;> omega) | omega | decide) (pc := 49) d_Mob_takeAdvert_49 (c_Mob_endsSoon l D b ca (by first | assumption | (constructor <;> omega) | omega | decide) ) ⟨Nat.le_of_ble_eq_true rfl, Nat.le_of_ble_eq_true rfl⟩ ⟨Nat.zero_le _, Nat.zero_le _⟩ (Nat.le_of_ble_eq_true rfl) ?_
      refine rx_if_eq C.1 (pc := 52) d_Mob_takeAdvert_52 (tgt := 64) rfl (fun h3 => ?_) (fun h3 => ?_)
      ·
        exact rx_vret C (pc := 64) d_Mob_takeAdvert_64 (by unfold sp_Mob_takeAdvert; first | (simp only [if_pos h1, if_pos h2, if_pos h3]; done) | (simp only [if_pos h1, if_pos h2, if_pos h3]; rfl))
      ·
        refine rx_iload_n C.1 (pc := 55) d_Mob_takeAdvert_55 rfl ?_
        refine rx_if_ne C.1 (pc := 56) d_Mob_takeAdvert_56 (tgt := 64) rfl (fun h9 => absurd h9 (by decide)) (fun _ => ?_)
        refine rx_aload_n C.1 (pc := 59) d_Mob_takeAdvert_59 rfl ?_
        refine rx_iload_n C.1 (pc := 60) d_Mob_takeAdvert_60 rfl ?_
        refine q_Mob_73 D b ca C (by first | assumption | (constructor <;> omega) | omega | decide) (pc := 61) d_Mob_takeAdvert_61 (c_Mob_registerWith l D b ca (by first | assumption | (constructor <;> omega) | omega | decide) ) ⟨Nat.le_of_ble_eq_true rfl, Nat.le_of_ble_eq_true rfl⟩ ⟨Nat.zero_le _, Nat.zero_le _⟩ (Nat.le_of_ble_eq_true rfl) ?_
        exact rx_vret C (pc := 64) d_Mob_takeAdvert_64 (by unfold sp_Mob_takeAdvert; first | (simp only [if_pos h1, if_pos h2, if_neg h3]; done) | (simp only [if_pos h1, if_pos h2, if_neg h3]; rfl))
  ·
    refine rx_aload_n C.1 (pc := 26) d_Mob_takeAdvert_26 rfl ?_
    refine g_Mob_66 D b ca C (by first | assumption | (constructor <;> omega) | omega | decide) (pc := 27) d_Mob_takeAdvert_27 ?_
    refine rx_iload_n C.1 (pc := 30) d_Mob_takeAdvert_30 rfl ?_
    refine rx_icmp_ne C.1 (pc := 31) d_Mob_takeAdvert_31 (tgt := 38) rfl (fun h4 => ?_) (fun h4 => ?_)
    ·
      refine rx_iconst C.1 (v := 0) (pc := 38) d_Mob_takeAdvert_38 (by decide) ?_
      refine rx_istore_n C.1 (pc := 39) d_Mob_takeAdvert_39 (by decide) ?_
      refine rx_aload_n C.1 (pc := 40) d_Mob_takeAdvert_40 rfl ?_
      refine g_Mob_22 D b ca C (by first | assumption | (constructor <;> omega) | omega | decide) (pc := 41) d_Mob_takeAdvert_41 ?_
      refine rx_iload_n C.1 (pc := 44) d_Mob_takeAdvert_44 rfl ?_
      refine rx_icmp_ne C.1 (pc := 45) d_Mob_takeAdvert_45 (tgt := 55) rfl (fun h5 => ?_) (fun h5 => ?_)
      ·
        refine rx_iload_n C.1 (pc := 55) d_Mob_takeAdvert_55 rfl ?_
        refine rx_if_ne C.1 (pc := 56) d_Mob_takeAdvert_56 (tgt := 64) rfl (fun h9 => absurd h9 (by decide)) (fun _ => ?_)
        refine rx_aload_n C.1 (pc := 59) d_Mob_takeAdvert_59 rfl ?_
        refine rx_iload_n C.1 (pc := 60) d_Mob_takeAdvert_60 rfl ?_
        refine q_Mob_73 D b ca C (by first | assumption | (constructor <;> omega) | omega | decide) (pc := 61) d_Mob_takeAdvert_61 (c_Mob_registerWith l D b ca (by first | assumption | (constructor <;> omega) | omega | decide) ) ⟨Nat.le_of_ble_eq_true rfl, Nat.le_of_ble_eq_true rfl⟩ ⟨Nat.zero_le _, Nat.zero_le _⟩ (Nat.le_of_ble_eq_true rfl) ?_
        exact rx_vret C (pc := 64) d_Mob_takeAdvert_64 (by unfold sp_Mob_takeAdvert; first | (simp only [if_neg h1, if_neg h4, if_neg h5]; done) | (simp only [if_neg h1, if_neg h4, if_neg h5]; rfl))
      ·
        refine rx_aload_n C.1 (pc := 48) d_Mob_takeAdvert_48 rfl ?_
        refine q_Mob_69 D b ca C (by first | assumption | (constructor <;> omega) | omega | decide) (pc := 49) d_Mob_takeAdvert_49 (c_Mob_endsSoon l D b ca (by first | assumption | (constructor <;> omega) | omega | decide) ) ⟨Nat.le_of_ble_eq_true rfl, Nat.le_of_ble_eq_true rfl⟩ ⟨Nat.zero_le _, Nat.zero_le _⟩ (Nat.le_of_ble_eq_true rfl) ?_
        refine rx_if_eq C.1 (pc := 52) d_Mob_takeAdvert_52 (tgt := 64) rfl (fun h6 => ?_) (fun h6 => ?_)
        ·
          exact rx_vret C (pc := 64) d_Mob_takeAdvert_64 (by unfold sp_Mob_takeAdvert; first | (simp only [if_neg h1, if_neg h4, if_pos h5, if_pos h6]; done) | (simp only [if_neg h1, if_neg h4, if_pos h5, if_pos h6]; rfl))
        ·
          refine rx_iload_n C.1 (pc := 55) d_Mob_takeAdvert_55 rfl ?_
          refine rx_if_ne C.1 (pc := 56) d_Mob_takeAdvert_56 (tgt := 64) rfl (fun h9 => absurd h9 (by decide)) (fun _ => ?_)
          refine rx_aload_n C.1 (pc := 59) d_Mob_takeAdvert_59 rfl ?_
          refine rx_iload_n C.1 (pc := 60) d_Mob_takeAdvert_60 rfl ?_
          refine q_Mob_73 D b ca C (by first | assumption | (constructor <;> omega) | omega | decide) (pc := 61) d_Mob_takeAdvert_61 (c_Mob_registerWith l D b ca (by first | assumption | (constructor <;> omega) | omega | decide) ) ⟨Nat.le_of_ble_eq_true rfl, Nat.le_of_ble_eq_true rfl⟩ ⟨Nat.zero_le _, Nat.zero_le _⟩ (Nat.le_of_ble_eq_true rfl) ?_
          exact rx_vret C (pc := 64) d_Mob_takeAdvert_64 (by unfold sp_Mob_takeAdvert; first | (simp only [if_neg h1, if_neg h4, if_pos h5, if_neg h6]; done) | (simp only [if_neg h1, if_neg h4, if_pos h5, if_neg h6]; rfl))
    ·
      refine rx_iconst C.1 (v := 1) (pc := 34) d_Mob_takeAdvert_34 (by decide) ?_
      refine rx_goto C.1 (pc := 35) d_Mob_takeAdvert_35 (tgt := 39) rfl ?_
      refine rx_istore_n C.1 (pc := 39) d_Mob_takeAdvert_39 (by decide) ?_
      refine rx_aload_n C.1 (pc := 40) d_Mob_takeAdvert_40 rfl ?_
      refine g_Mob_22 D b ca C (by first | assumption | (constructor <;> omega) | omega | decide) (pc := 41) d_Mob_takeAdvert_41 ?_
      refine rx_iload_n C.1 (pc := 44) d_Mob_takeAdvert_44 rfl ?_
      refine rx_icmp_ne C.1 (pc := 45) d_Mob_takeAdvert_45 (tgt := 55) rfl (fun h7 => ?_) (fun h7 => ?_)
      ·
        refine rx_iload_n C.1 (pc := 55) d_Mob_takeAdvert_55 rfl ?_
        refine rx_if_ne C.1 (pc := 56) d_Mob_takeAdvert_56 (tgt := 64) rfl (fun _ => ?_) (fun h9 => absurd h9 (by decide))
        exact rx_vret C (pc := 64) d_Mob_takeAdvert_64 (by unfold sp_Mob_takeAdvert; first | (simp only [if_neg h1, if_pos h4, if_neg h7]; done) | (simp only [if_neg h1, if_pos h4, if_neg h7]; rfl))
      ·
        refine rx_aload_n C.1 (pc := 48) d_Mob_takeAdvert_48 rfl ?_
        refine q_Mob_69 D b ca C (by first | assumption | (constructor <;> omega) | omega | decide) (pc := 49) d_Mob_takeAdvert_49 (c_Mob_endsSoon l D b ca (by first | assumption | (constructor <;> omega) | omega | decide) ) ⟨Nat.le_of_ble_eq_true rfl, Nat.le_of_ble_eq_true rfl⟩ ⟨Nat.zero_le _, Nat.zero_le _⟩ (Nat.le_of_ble_eq_true rfl) ?_
        refine rx_if_eq C.1 (pc := 52) d_Mob_takeAdvert_52 (tgt := 64) rfl (fun h8 => ?_) (fun h8 => ?_)
        ·
          exact rx_vret C (pc := 64) d_Mob_takeAdvert_64 (by unfold sp_Mob_takeAdvert; first | (simp only [if_neg h1, if_pos h4, if_pos h7, if_pos h8]; done) | (simp only [if_neg h1, if_pos h4, if_pos h7, if_pos h8]; rfl))
        ·
          refine rx_iload_n C.1 (pc := 55) d_Mob_takeAdvert_55 rfl ?_
          refine rx_if_ne C.1 (pc := 56) d_Mob_takeAdvert_56 (tgt := 64) rfl (fun _ => ?_) (fun h9 => absurd h9 (by decide))
          exact rx_vret C (pc := 64) d_Mob_takeAdvert_64 (by unfold sp_Mob_takeAdvert; first | (simp only [if_neg h1, if_pos h4, if_pos h7, if_neg h8]; done) | (simp only [if_neg h1, if_pos h4, if_pos h7, if_neg h8]; rfl))

def sp_Mob_takeReply (σ : rMem) (j : Nat) (r : Nat) : rMem := if (σ (46 + j) 10) = 0 then σ else (if (σ (46 + j) 10) = (σ r 4) then (if (σ r 6) = 66 then (let m5 := rx_wr σ (46 + j) 10 0; m5) else (if (σ r 8) = (rv_Msg_replySeal σ r (σ (46 + j) 3)) then (let m1 := rx_wr σ (46 + j) 10 0; if (m1 r 6) = 0 then (let m2 := rx_wr m1 (46 + j) 6 (m1 r 5); if (m2 (46 + j) 6) = 0 then (let m4 := rx_wr m2 (46 + j) 7 2147483647; m4) else (let m3 := rx_wr m2 (46 + j) 7 ((m2 (46 + j) 12) + (m2 r 7)); m3)) else m1) else σ)) else σ)
set_option maxHeartbeats 4000000 in
set_option maxRecDepth 100000 in
theorem c_Mob_takeReply (l : Launch) (D : va_G) (b : Nat) (ca : Nat → ClassId) {σ : rMem} {j : Nat} (hj : j < 2) {r : Nat} (hr : 3 ≤ r ∧ r < 45) : rx_C l (rx_fin D b ca) y_Mob_takeReply b_Mob_takeReply 2 none (rx_rm 2) [.ref (rg_A (rx_fin D b ca) (46 + j)), .ref (rg_A (rx_fin D b ca) r)] σ none (sp_Mob_takeReply σ j r) := by
  refine rx_of (lo := [(0, .ref (rg_A (rx_fin D b ca) (46 + j))), (1, .ref (rg_A (rx_fin D b ca) r))]) (by decide) (rx_fin_D D b ca) rfl (Nat.le_of_ble_eq_true rfl) rfl ?_
  intro p e s mm below meth c C
  refine rx_aload_n C.1 (pc := 0) d_Mob_takeReply_0 rfl ?_
  refine g_Mob_63 D b ca C (by first | assumption | (constructor <;> omega) | omega | decide) (pc := 1) d_Mob_takeReply_1 ?_
  refine rx_if_eq C.1 (pc := 4) d_Mob_takeReply_4 (tgt := 18) rfl (fun h1 => ?_) (fun h1 => ?_)
  ·
    exact rx_vret C (pc := 18) d_Mob_takeReply_18 (by unfold sp_Mob_takeReply; first | (simp only [if_pos h1]; done) | (simp only [if_pos h1]; rfl))
  ·
    refine rx_aload_n C.1 (pc := 7) d_Mob_takeReply_7 rfl ?_
    refine g_Mob_63 D b ca C (by first | assumption | (constructor <;> omega) | omega | decide) (pc := 8) d_Mob_takeReply_8 ?_
    refine rx_aload_n C.1 (pc := 11) d_Mob_takeReply_11 rfl ?_
    refine g_Mob_41 D b ca C (by first | assumption | (constructor <;> omega) | omega | decide) (pc := 12) d_Mob_takeReply_12 ?_
    refine rx_icmp_eq C.1 (pc := 15) d_Mob_takeReply_15 (tgt := 19) rfl (fun h2 => ?_) (fun h2 => ?_)
    ·
      refine rx_aload_n C.1 (pc := 19) d_Mob_takeReply_19 rfl ?_
      refine g_Mob_102 D b ca C (by first | assumption | (constructor <;> omega) | omega | decide) (pc := 20) d_Mob_takeReply_20 ?_
      refine rx_bipush C.1 (v := 66) (pc := 23) d_Mob_takeReply_23 (by decide) ?_
      refine rx_icmp_ne C.1 (pc := 25) d_Mob_takeReply_25 (tgt := 36) rfl (fun h3 => ?_) (fun h3 => ?_)
      ·
        refine rx_aload_n C.1 (pc := 36) d_Mob_takeReply_36 rfl ?_
        refine g_Mob_96 D b ca C (by first | assumption | (constructor <;> omega) | omega | decide) (pc := 37) d_Mob_takeReply_37 ?_
        refine rx_aload_n C.1 (pc := 40) d_Mob_takeReply_40 rfl ?_
        refine rx_aload_n C.1 (pc := 41) d_Mob_takeReply_41 rfl ?_
        refine g_Mob_89 D b ca C (by first | assumption | (constructor <;> omega) | omega | decide) (pc := 42) d_Mob_takeReply_42 ?_
        refine q_Mob_105 D b ca C (by first | assumption | (constructor <;> omega) | omega | decide) (pc := 45) d_Mob_takeReply_45 (c_Msg_replySeal l D b ca (by first | assumption | (constructor <;> omega) | omega | decide) ) ⟨Nat.le_of_ble_eq_true rfl, Nat.le_of_ble_eq_true rfl⟩ ⟨Nat.zero_le _, Nat.zero_le _⟩ (Nat.le_of_ble_eq_true rfl) ?_
        refine rx_icmp_ne C.1 (pc := 48) d_Mob_takeReply_48 (tgt := 96) rfl (fun h4 => ?_) (fun h4 => ?_)
        ·
          exact rx_vret C (pc := 96) d_Mob_takeReply_96 (by unfold sp_Mob_takeReply; first | (simp only [if_neg h1, if_pos h2, if_neg h3, if_neg h4]; done) | (simp only [if_neg h1, if_pos h2, if_neg h3, if_neg h4]; rfl))
        ·
          refine rx_aload_n C.1 (pc := 51) d_Mob_takeReply_51 rfl ?_
          refine rx_iconst C.1 (v := 0) (pc := 52) d_Mob_takeReply_52 (by decide) ?_
          refine p_Mob_63 D b ca C (by first | assumption | (constructor <;> omega) | omega | decide) (pc := 53) d_Mob_takeReply_53 ?_
          refine rx_aload_n C.1 (pc := 56) d_Mob_takeReply_56 rfl ?_
          refine g_Mob_102 D b ca C (by first | assumption | (constructor <;> omega) | omega | decide) (pc := 57) d_Mob_takeReply_57 ?_
          refine rx_if_ne C.1 (pc := 60) d_Mob_takeReply_60 (tgt := 96) rfl (fun h5 => ?_) (fun h5 => ?_)
          ·
            exact rx_vret C (pc := 96) d_Mob_takeReply_96 (by unfold sp_Mob_takeReply; first | (simp only [if_neg h1, if_pos h2, if_neg h3, if_pos h4, if_neg h5]; done) | (simp only [if_neg h1, if_pos h2, if_neg h3, if_pos h4, if_neg h5]; rfl))
          ·
            refine rx_aload_n C.1 (pc := 63) d_Mob_takeReply_63 rfl ?_
            refine rx_aload_n C.1 (pc := 64) d_Mob_takeReply_64 rfl ?_
            refine g_Mob_83 D b ca C (by first | assumption | (constructor <;> omega) | omega | decide) (pc := 65) d_Mob_takeReply_65 ?_
            refine p_Mob_22 D b ca C (by first | assumption | (constructor <;> omega) | omega | decide) (pc := 68) d_Mob_takeReply_68 ?_
            refine rx_aload_n C.1 (pc := 71) d_Mob_takeReply_71 rfl ?_
            refine rx_aload_n C.1 (pc := 72) d_Mob_takeReply_72 rfl ?_
            refine g_Mob_22 D b ca C (by first | assumption | (constructor <;> omega) | omega | decide) (pc := 73) d_Mob_takeReply_73 ?_
            refine rx_if_ne C.1 (pc := 76) d_Mob_takeReply_76 (tgt := 84) rfl (fun h6 => ?_) (fun h6 => ?_)
            ·
              refine rx_aload_n C.1 (pc := 84) d_Mob_takeReply_84 rfl ?_
              refine g_Mob_99 D b ca C (by first | assumption | (constructor <;> omega) | omega | decide) (pc := 85) d_Mob_takeReply_85 ?_
              refine rx_aload_n C.1 (pc := 88) d_Mob_takeReply_88 rfl ?_
              refine g_Mob_86 D b ca C (by first | assumption | (constructor <;> omega) | omega | decide) (pc := 89) d_Mob_takeReply_89 ?_
              refine rx_iadd C.1 (pc := 92) d_Mob_takeReply_92 ?_
              refine p_Mob_26 D b ca C (by first | assumption | (constructor <;> omega) | omega | decide) (pc := 93) d_Mob_takeReply_93 ?_
              exact rx_vret C (pc := 96) d_Mob_takeReply_96 (by unfold sp_Mob_takeReply; first | (simp only [if_neg h1, if_pos h2, if_neg h3, if_pos h4, if_pos h5, if_neg h6]; done) | (simp only [if_neg h1, if_pos h2, if_neg h3, if_pos h4, if_pos h5, if_neg h6]; rfl))
            ·
              refine rx_ldc C.1 (v := 2147483647) k_Mob_25 (pc := 79) d_Mob_takeReply_79 ?_
              refine rx_goto C.1 (pc := 81) d_Mob_takeReply_81 (tgt := 93) rfl ?_
              refine p_Mob_26 D b ca C (by first | assumption | (constructor <;> omega) | omega | decide) (pc := 93) d_Mob_takeReply_93 ?_
              exact rx_vret C (pc := 96) d_Mob_takeReply_96 (by unfold sp_Mob_takeReply; first | (simp only [if_neg h1, if_pos h2, if_neg h3, if_pos h4, if_pos h5, if_pos h6]; done) | (simp only [if_neg h1, if_pos h2, if_neg h3, if_pos h4, if_pos h5, if_pos h6]; rfl))
      ·
        refine rx_aload_n C.1 (pc := 28) d_Mob_takeReply_28 rfl ?_
        refine rx_iconst C.1 (v := 0) (pc := 29) d_Mob_takeReply_29 (by decide) ?_
        refine p_Mob_63 D b ca C (by first | assumption | (constructor <;> omega) | omega | decide) (pc := 30) d_Mob_takeReply_30 ?_
        refine rx_goto C.1 (pc := 33) d_Mob_takeReply_33 (tgt := 96) rfl ?_
        exact rx_vret C (pc := 96) d_Mob_takeReply_96 (by unfold sp_Mob_takeReply; first | (simp only [if_neg h1, if_pos h2, if_pos h3]; done) | (simp only [if_neg h1, if_pos h2, if_pos h3]; rfl))
    ·
      exact rx_vret C (pc := 18) d_Mob_takeReply_18 (by unfold sp_Mob_takeReply; first | (simp only [if_neg h1, if_neg h2]; done) | (simp only [if_neg h1, if_neg h2]; rfl))

def sp_Mob_takeData (σ : rMem) (j : Nat) (nu : Int32) : rMem := if nu = ((σ (46 + j) 13) + 1) then (let m2 := rx_wr σ (46 + j) 13 ((σ (46 + j) 13) + 1); let m3 := (sp_Wire_sendTo m2 4 6 (m2 (46 + j) 0) (m2 (46 + j) 13)).1; m3) else (let m1 := (sp_Wire_sendTo σ 4 6 (σ (46 + j) 0) (σ (46 + j) 13)).1; m1)
set_option maxHeartbeats 4000000 in
set_option maxRecDepth 100000 in
theorem c_Mob_takeData (l : Launch) (D : va_G) (b : Nat) (ca : Nat → ClassId) {σ : rMem} {j : Nat} (hj : j < 2) {nu : Int32} : rx_C l (rx_fin D b ca) y_Mob_takeData b_Mob_takeData 2 none (rx_rm 3) [.ref (rg_A (rx_fin D b ca) (46 + j)), .int nu] σ none (sp_Mob_takeData σ j nu) := by
  refine rx_of (lo := [(0, .ref (rg_A (rx_fin D b ca) (46 + j))), (1, .int nu)]) (by decide) (rx_fin_D D b ca) rfl (Nat.le_of_ble_eq_true rfl) rfl ?_
  intro p e s mm below meth c C
  refine rx_iload_n C.1 (pc := 0) d_Mob_takeData_0 rfl ?_
  refine rx_aload_n C.1 (pc := 1) d_Mob_takeData_1 rfl ?_
  refine g_Mob_108 D b ca C (by first | assumption | (constructor <;> omega) | omega | decide) (pc := 2) d_Mob_takeData_2 ?_
  refine rx_iconst C.1 (v := 1) (pc := 5) d_Mob_takeData_5 (by decide) ?_
  refine rx_iadd C.1 (pc := 6) d_Mob_takeData_6 ?_
  refine rx_icmp_ne C.1 (pc := 7) d_Mob_takeData_7 (tgt := 20) rfl (fun h1 => ?_) (fun h1 => ?_)
  ·
    refine rx_aload_n C.1 (pc := 20) d_Mob_takeData_20 rfl ?_
    refine g_Mob_18 D b ca C (by first | assumption | (constructor <;> omega) | omega | decide) (pc := 21) d_Mob_takeData_21 ?_
    refine rx_iconst C.1 (v := 4) (pc := 24) d_Mob_takeData_24 (by decide) ?_
    refine rx_bipush C.1 (v := 6) (pc := 25) d_Mob_takeData_25 (by decide) ?_
    refine rx_aload_n C.1 (pc := 27) d_Mob_takeData_27 rfl ?_
    refine g_Mob_9 D b ca C (by first | assumption | (constructor <;> omega) | omega | decide) (pc := 28) d_Mob_takeData_28 ?_
    refine rx_aload_n C.1 (pc := 31) d_Mob_takeData_31 rfl ?_
    refine g_Mob_108 D b ca C (by first | assumption | (constructor <;> omega) | omega | decide) (pc := 32) d_Mob_takeData_32 ?_
    refine q_Mob_79 D b ca C (pc := 35) d_Mob_takeData_35 (c_Wire_sendTo l D b ca ) (fun hI => rq_Wire_sendTo hI) ⟨Nat.le_of_ble_eq_true rfl, Nat.le_of_ble_eq_true rfl⟩ ⟨Nat.zero_le _, Nat.zero_le _⟩ (Nat.le_of_ble_eq_true rfl) (fun hq1 => ?_)
    refine rx_pop C.1 (pc := 38) d_Mob_takeData_38 rfl ?_
    exact rx_vret C (pc := 39) d_Mob_takeData_39 (by unfold sp_Mob_takeData; first | (simp only [if_neg h1]; done) | (simp only [if_neg h1]; rfl))
  ·
    refine rx_aload_n C.1 (pc := 10) d_Mob_takeData_10 rfl ?_
    refine rx_dup C.1 (pc := 11) d_Mob_takeData_11 rfl ?_
    refine g_Mob_108 D b ca C (by first | assumption | (constructor <;> omega) | omega | decide) (pc := 12) d_Mob_takeData_12 ?_
    refine rx_iconst C.1 (v := 1) (pc := 15) d_Mob_takeData_15 (by decide) ?_
    refine rx_iadd C.1 (pc := 16) d_Mob_takeData_16 ?_
    refine p_Mob_108 D b ca C (by first | assumption | (constructor <;> omega) | omega | decide) (pc := 17) d_Mob_takeData_17 ?_
    refine rx_aload_n C.1 (pc := 20) d_Mob_takeData_20 rfl ?_
    refine g_Mob_18 D b ca C (by first | assumption | (constructor <;> omega) | omega | decide) (pc := 21) d_Mob_takeData_21 ?_
    refine rx_iconst C.1 (v := 4) (pc := 24) d_Mob_takeData_24 (by decide) ?_
    refine rx_bipush C.1 (v := 6) (pc := 25) d_Mob_takeData_25 (by decide) ?_
    refine rx_aload_n C.1 (pc := 27) d_Mob_takeData_27 rfl ?_
    refine g_Mob_9 D b ca C (by first | assumption | (constructor <;> omega) | omega | decide) (pc := 28) d_Mob_takeData_28 ?_
    refine rx_aload_n C.1 (pc := 31) d_Mob_takeData_31 rfl ?_
    refine g_Mob_108 D b ca C (by first | assumption | (constructor <;> omega) | omega | decide) (pc := 32) d_Mob_takeData_32 ?_
    refine q_Mob_79 D b ca C (pc := 35) d_Mob_takeData_35 (c_Wire_sendTo l D b ca ) (fun hI => rq_Wire_sendTo hI) ⟨Nat.le_of_ble_eq_true rfl, Nat.le_of_ble_eq_true rfl⟩ ⟨Nat.zero_le _, Nat.zero_le _⟩ (Nat.le_of_ble_eq_true rfl) (fun hq2 => ?_)
    refine rx_pop C.1 (pc := 38) d_Mob_takeData_38 rfl ?_
    exact rx_vret C (pc := 39) d_Mob_takeData_39 (by unfold sp_Mob_takeData; first | (simp only [if_pos h1]; done) | (simp only [if_pos h1]; rfl))

def sp_Mob_receive (σ : rMem) (j : Nat) (r : Nat) : rMem := if (σ r 2) = (σ (46 + j) 4) then (if (σ r 0) = 1 then (let m3 := sp_Mob_takeAdvert σ j (σ r 4); m3) else (if (σ r 0) = 3 then (let m2 := sp_Mob_takeReply σ j r; m2) else (if (σ r 0) = 4 then (let m1 := sp_Mob_takeData σ j (σ r 4); m1) else σ))) else σ
set_option maxHeartbeats 4000000 in
set_option maxRecDepth 100000 in
theorem c_Mob_receive (l : Launch) (D : va_G) (b : Nat) (ca : Nat → ClassId) {σ : rMem} {j : Nat} (hj : j < 2) {r : Nat} (hr : 3 ≤ r ∧ r < 45) : rx_C l (rx_fin D b ca) y_Mob_receive b_Mob_receive 2 none (rx_rm 5) [.ref (rg_A (rx_fin D b ca) (46 + j)), .ref (rg_A (rx_fin D b ca) r)] σ none (sp_Mob_receive σ j r) := by
  refine rx_of (lo := [(0, .ref (rg_A (rx_fin D b ca) (46 + j))), (1, .ref (rg_A (rx_fin D b ca) r))]) (by decide) (rx_fin_D D b ca) rfl (Nat.le_of_ble_eq_true rfl) rfl ?_
  intro p e s mm below meth c C
  refine rx_aload_n C.1 (pc := 0) d_Mob_receive_0 rfl ?_
  refine g_Mob_32 D b ca C (by first | assumption | (constructor <;> omega) | omega | decide) (pc := 1) d_Mob_receive_1 ?_
  refine rx_aload_n C.1 (pc := 4) d_Mob_receive_4 rfl ?_
  refine g_Mob_37 D b ca C (by first | assumption | (constructor <;> omega) | omega | decide) (pc := 5) d_Mob_receive_5 ?_
  refine rx_icmp_eq C.1 (pc := 8) d_Mob_receive_8 (tgt := 12) rfl (fun h1 => ?_) (fun h1 => ?_)
  ·
    refine rx_aload_n C.1 (pc := 12) d_Mob_receive_12 rfl ?_
    refine g_Mob_38 D b ca C (by first | assumption | (constructor <;> omega) | omega | decide) (pc := 13) d_Mob_receive_13 ?_
    refine rx_iconst C.1 (v := 1) (pc := 16) d_Mob_receive_16 (by decide) ?_
    refine rx_icmp_ne C.1 (pc := 17) d_Mob_receive_17 (tgt := 31) rfl (fun h2 => ?_) (fun h2 => ?_)
    ·
      refine rx_aload_n C.1 (pc := 31) d_Mob_receive_31 rfl ?_
      refine g_Mob_38 D b ca C (by first | assumption | (constructor <;> omega) | omega | decide) (pc := 32) d_Mob_receive_32 ?_
      refine rx_iconst C.1 (v := 3) (pc := 35) d_Mob_receive_35 (by decide) ?_
      refine rx_icmp_ne C.1 (pc := 36) d_Mob_receive_36 (tgt := 47) rfl (fun h3 => ?_) (fun h3 => ?_)
      ·
        refine rx_aload_n C.1 (pc := 47) d_Mob_receive_47 rfl ?_
        refine g_Mob_38 D b ca C (by first | assumption | (constructor <;> omega) | omega | decide) (pc := 48) d_Mob_receive_48 ?_
        refine rx_iconst C.1 (v := 4) (pc := 51) d_Mob_receive_51 (by decide) ?_
        refine rx_icmp_ne C.1 (pc := 52) d_Mob_receive_52 (tgt := 63) rfl (fun h4 => ?_) (fun h4 => ?_)
        ·
          exact rx_vret C (pc := 63) d_Mob_receive_63 (by unfold sp_Mob_receive; first | (simp only [if_pos h1, if_neg h2, if_neg h3, if_neg h4]; done) | (simp only [if_pos h1, if_neg h2, if_neg h3, if_neg h4]; rfl))
        ·
          refine rx_aload_n C.1 (pc := 55) d_Mob_receive_55 rfl ?_
          refine rx_aload_n C.1 (pc := 56) d_Mob_receive_56 rfl ?_
          refine g_Mob_41 D b ca C (by first | assumption | (constructor <;> omega) | omega | decide) (pc := 57) d_Mob_receive_57 ?_
          refine q_Mob_52 D b ca C (by first | assumption | (constructor <;> omega) | omega | decide) (pc := 60) d_Mob_receive_60 (c_Mob_takeData l D b ca (by first | assumption | (constructor <;> omega) | omega | decide) ) ⟨Nat.le_of_ble_eq_true rfl, Nat.le_of_ble_eq_true rfl⟩ ⟨Nat.zero_le _, Nat.zero_le _⟩ (Nat.le_of_ble_eq_true rfl) ?_
          exact rx_vret C (pc := 63) d_Mob_receive_63 (by unfold sp_Mob_receive; first | (simp only [if_pos h1, if_neg h2, if_neg h3, if_pos h4]; done) | (simp only [if_pos h1, if_neg h2, if_neg h3, if_pos h4]; rfl))
      ·
        refine rx_aload_n C.1 (pc := 39) d_Mob_receive_39 rfl ?_
        refine rx_aload_n C.1 (pc := 40) d_Mob_receive_40 rfl ?_
        refine q_Mob_48 D b ca C (by first | assumption | (constructor <;> omega) | omega | decide) (pc := 41) d_Mob_receive_41 (c_Mob_takeReply l D b ca (by first | assumption | (constructor <;> omega) | omega | decide) (by first | assumption | exact rx_iM0 | exact rx_iM1 | (constructor <;> omega))) ⟨Nat.le_of_ble_eq_true rfl, Nat.le_of_ble_eq_true rfl⟩ ⟨Nat.zero_le _, Nat.zero_le _⟩ (Nat.le_of_ble_eq_true rfl) ?_
        refine rx_goto C.1 (pc := 44) d_Mob_receive_44 (tgt := 63) rfl ?_
        exact rx_vret C (pc := 63) d_Mob_receive_63 (by unfold sp_Mob_receive; first | (simp only [if_pos h1, if_neg h2, if_pos h3]; done) | (simp only [if_pos h1, if_neg h2, if_pos h3]; rfl))
    ·
      refine rx_aload_n C.1 (pc := 20) d_Mob_receive_20 rfl ?_
      refine rx_aload_n C.1 (pc := 21) d_Mob_receive_21 rfl ?_
      refine g_Mob_41 D b ca C (by first | assumption | (constructor <;> omega) | omega | decide) (pc := 22) d_Mob_receive_22 ?_
      refine q_Mob_44 D b ca C (by first | assumption | (constructor <;> omega) | omega | decide) (pc := 25) d_Mob_receive_25 (c_Mob_takeAdvert l D b ca (by first | assumption | (constructor <;> omega) | omega | decide) ) ⟨Nat.le_of_ble_eq_true rfl, Nat.le_of_ble_eq_true rfl⟩ ⟨Nat.zero_le _, Nat.zero_le _⟩ (Nat.le_of_ble_eq_true rfl) ?_
      refine rx_goto C.1 (pc := 28) d_Mob_receive_28 (tgt := 63) rfl ?_
      exact rx_vret C (pc := 63) d_Mob_receive_63 (by unfold sp_Mob_receive; first | (simp only [if_pos h1, if_pos h2]; done) | (simp only [if_pos h1, if_pos h2]; rfl))
  ·
    exact rx_vret C (pc := 11) d_Mob_receive_11 (by unfold sp_Mob_receive; first | (simp only [if_neg h1]; done) | (simp only [if_neg h1]; rfl))

def sp_Mob_notice (σ : rMem) (j : Nat) : rMem := if (σ 1 2) < (σ (46 + j) 9) then (if (σ 1 2) < (σ (46 + j) 7) then (if (σ (46 + j) 10) = 0 then σ else (if ((σ 1 2) - (σ (46 + j) 12)) < 3 then σ else (if (σ (46 + j) 11) = (σ (46 + j) 8) then (let m2 := sp_Mob_registerWith σ j (σ (46 + j) 11); m2) else (let m1 := rx_wr σ (46 + j) 10 0; m1)))) else (let m3 := rx_wr σ (46 + j) 6 (-1); if (m3 (46 + j) 10) = 0 then m3 else (if ((m3 1 2) - (m3 (46 + j) 12)) < 3 then m3 else (if (m3 (46 + j) 11) = (m3 (46 + j) 8) then (let m5 := sp_Mob_registerWith m3 j (m3 (46 + j) 11); m5) else (let m4 := rx_wr m3 (46 + j) 10 0; m4))))) else (let m6 := rx_wr σ (46 + j) 8 (-1); if (m6 1 2) < (m6 (46 + j) 7) then (if (m6 (46 + j) 10) = 0 then m6 else (if ((m6 1 2) - (m6 (46 + j) 12)) < 3 then m6 else (if (m6 (46 + j) 11) = (m6 (46 + j) 8) then (let m8 := sp_Mob_registerWith m6 j (m6 (46 + j) 11); m8) else (let m7 := rx_wr m6 (46 + j) 10 0; m7)))) else (let m9 := rx_wr m6 (46 + j) 6 (-1); if (m9 (46 + j) 10) = 0 then m9 else (if ((m9 1 2) - (m9 (46 + j) 12)) < 3 then m9 else (if (m9 (46 + j) 11) = (m9 (46 + j) 8) then (let m11 := sp_Mob_registerWith m9 j (m9 (46 + j) 11); m11) else (let m10 := rx_wr m9 (46 + j) 10 0; m10)))))
set_option maxHeartbeats 4000000 in
set_option maxRecDepth 100000 in
theorem c_Mob_notice (l : Launch) (D : va_G) (b : Nat) (ca : Nat → ClassId) {σ : rMem} {j : Nat} (hj : j < 2) : rx_C l (rx_fin D b ca) y_Mob_notice b_Mob_notice 1 none (rx_rm 4) [.ref (rg_A (rx_fin D b ca) (46 + j))] σ none (sp_Mob_notice σ j) := by
  refine rx_of (lo := [(0, .ref (rg_A (rx_fin D b ca) (46 + j)))]) (by decide) (rx_fin_D D b ca) rfl (Nat.le_of_ble_eq_true rfl) rfl ?_
  intro p e s mm below meth c C
  refine rx_aload_n C.1 (pc := 0) d_Mob_notice_0 rfl ?_
  refine g_Mob_60 D b ca C (by first | assumption | (constructor <;> omega) | omega | decide) (pc := 1) d_Mob_notice_1 ?_
  refine rx_aload_n C.1 (pc := 4) d_Mob_notice_4 rfl ?_
  refine g_Mob_18 D b ca C (by first | assumption | (constructor <;> omega) | omega | decide) (pc := 5) d_Mob_notice_5 ?_
  refine g_Mob_55 D b ca C (pc := 8) d_Mob_notice_8 ?_
  refine rx_icmp_gt C.1 (pc := 11) d_Mob_notice_11 (tgt := 19) rfl (fun h1 => ?_) (fun h1 => ?_)
  ·
    refine rx_aload_n C.1 (pc := 19) d_Mob_notice_19 rfl ?_
    refine g_Mob_26 D b ca C (by first | assumption | (constructor <;> omega) | omega | decide) (pc := 20) d_Mob_notice_20 ?_
    refine rx_aload_n C.1 (pc := 23) d_Mob_notice_23 rfl ?_
    refine g_Mob_18 D b ca C (by first | assumption | (constructor <;> omega) | omega | decide) (pc := 24) d_Mob_notice_24 ?_
    refine g_Mob_55 D b ca C (pc := 27) d_Mob_notice_27 ?_
    refine rx_icmp_gt C.1 (pc := 30) d_Mob_notice_30 (tgt := 38) rfl (fun h2 => ?_) (fun h2 => ?_)
    ·
      refine rx_aload_n C.1 (pc := 38) d_Mob_notice_38 rfl ?_
      refine g_Mob_63 D b ca C (by first | assumption | (constructor <;> omega) | omega | decide) (pc := 39) d_Mob_notice_39 ?_
      refine rx_if_eq C.1 (pc := 42) d_Mob_notice_42 (tgt := 88) rfl (fun h3 => ?_) (fun h3 => ?_)
      ·
        exact rx_vret C (pc := 88) d_Mob_notice_88 (by unfold sp_Mob_notice; first | (simp only [if_pos h1, if_pos h2, if_pos h3]; done) | (simp only [if_pos h1, if_pos h2, if_pos h3]; rfl))
      ·
        refine rx_aload_n C.1 (pc := 45) d_Mob_notice_45 rfl ?_
        refine g_Mob_18 D b ca C (by first | assumption | (constructor <;> omega) | omega | decide) (pc := 46) d_Mob_notice_46 ?_
        refine g_Mob_55 D b ca C (pc := 49) d_Mob_notice_49 ?_
        refine rx_aload_n C.1 (pc := 52) d_Mob_notice_52 rfl ?_
        refine g_Mob_99 D b ca C (by first | assumption | (constructor <;> omega) | omega | decide) (pc := 53) d_Mob_notice_53 ?_
        refine rx_isub C.1 (pc := 56) d_Mob_notice_56 ?_
        refine rx_iconst C.1 (v := 3) (pc := 57) d_Mob_notice_57 (by decide) ?_
        refine rx_icmp_lt C.1 (pc := 58) d_Mob_notice_58 (tgt := 88) rfl (fun h4 => ?_) (fun h4 => ?_)
        ·
          exact rx_vret C (pc := 88) d_Mob_notice_88 (by unfold sp_Mob_notice; first | (simp only [if_pos h1, if_pos h2, if_neg h3, if_pos h4]; done) | (simp only [if_pos h1, if_pos h2, if_neg h3, if_pos h4]; rfl))
        ·
          refine rx_aload_n C.1 (pc := 61) d_Mob_notice_61 rfl ?_
          refine g_Mob_66 D b ca C (by first | assumption | (constructor <;> omega) | omega | decide) (pc := 62) d_Mob_notice_62 ?_
          refine rx_aload_n C.1 (pc := 65) d_Mob_notice_65 rfl ?_
          refine g_Mob_29 D b ca C (by first | assumption | (constructor <;> omega) | omega | decide) (pc := 66) d_Mob_notice_66 ?_
          refine rx_icmp_ne C.1 (pc := 69) d_Mob_notice_69 (tgt := 83) rfl (fun h5 => ?_) (fun h5 => ?_)
          ·
            refine rx_aload_n C.1 (pc := 83) d_Mob_notice_83 rfl ?_
            refine rx_iconst C.1 (v := 0) (pc := 84) d_Mob_notice_84 (by decide) ?_
            refine p_Mob_63 D b ca C (by first | assumption | (constructor <;> omega) | omega | decide) (pc := 85) d_Mob_notice_85 ?_
            exact rx_vret C (pc := 88) d_Mob_notice_88 (by unfold sp_Mob_notice; first | (simp only [if_pos h1, if_pos h2, if_neg h3, if_neg h4, if_neg h5]; done) | (simp only [if_pos h1, if_pos h2, if_neg h3, if_neg h4, if_neg h5]; rfl))
          ·
            refine rx_aload_n C.1 (pc := 72) d_Mob_notice_72 rfl ?_
            refine rx_aload_n C.1 (pc := 73) d_Mob_notice_73 rfl ?_
            refine g_Mob_66 D b ca C (by first | assumption | (constructor <;> omega) | omega | decide) (pc := 74) d_Mob_notice_74 ?_
            refine q_Mob_73 D b ca C (by first | assumption | (constructor <;> omega) | omega | decide) (pc := 77) d_Mob_notice_77 (c_Mob_registerWith l D b ca (by first | assumption | (constructor <;> omega) | omega | decide) ) ⟨Nat.le_of_ble_eq_true rfl, Nat.le_of_ble_eq_true rfl⟩ ⟨Nat.zero_le _, Nat.zero_le _⟩ (Nat.le_of_ble_eq_true rfl) ?_
            refine rx_goto C.1 (pc := 80) d_Mob_notice_80 (tgt := 88) rfl ?_
            exact rx_vret C (pc := 88) d_Mob_notice_88 (by unfold sp_Mob_notice; first | (simp only [if_pos h1, if_pos h2, if_neg h3, if_neg h4, if_pos h5]; done) | (simp only [if_pos h1, if_pos h2, if_neg h3, if_neg h4, if_pos h5]; rfl))
    ·
      refine rx_aload_n C.1 (pc := 33) d_Mob_notice_33 rfl ?_
      refine rx_iconst C.1 (v := (-1)) (pc := 34) d_Mob_notice_34 (by decide) ?_
      refine p_Mob_22 D b ca C (by first | assumption | (constructor <;> omega) | omega | decide) (pc := 35) d_Mob_notice_35 ?_
      refine rx_aload_n C.1 (pc := 38) d_Mob_notice_38 rfl ?_
      refine g_Mob_63 D b ca C (by first | assumption | (constructor <;> omega) | omega | decide) (pc := 39) d_Mob_notice_39 ?_
      refine rx_if_eq C.1 (pc := 42) d_Mob_notice_42 (tgt := 88) rfl (fun h6 => ?_) (fun h6 => ?_)
      ·
        exact rx_vret C (pc := 88) d_Mob_notice_88 (by unfold sp_Mob_notice; first | (simp only [if_pos h1, if_neg h2, if_pos h6]; done) | (simp only [if_pos h1, if_neg h2, if_pos h6]; rfl))
      ·
        refine rx_aload_n C.1 (pc := 45) d_Mob_notice_45 rfl ?_
        refine g_Mob_18 D b ca C (by first | assumption | (constructor <;> omega) | omega | decide) (pc := 46) d_Mob_notice_46 ?_
        refine g_Mob_55 D b ca C (pc := 49) d_Mob_notice_49 ?_
        refine rx_aload_n C.1 (pc := 52) d_Mob_notice_52 rfl ?_
        refine g_Mob_99 D b ca C (by first | assumption | (constructor <;> omega) | omega | decide) (pc := 53) d_Mob_notice_53 ?_
        refine rx_isub C.1 (pc := 56) d_Mob_notice_56 ?_
        refine rx_iconst C.1 (v := 3) (pc := 57) d_Mob_notice_57 (by decide) ?_
        refine rx_icmp_lt C.1 (pc := 58) d_Mob_notice_58 (tgt := 88) rfl (fun h7 => ?_) (fun h7 => ?_)
        ·
          exact rx_vret C (pc := 88) d_Mob_notice_88 (by unfold sp_Mob_notice; first | (simp only [if_pos h1, if_neg h2, if_neg h6, if_pos h7]; done) | (simp only [if_pos h1, if_neg h2, if_neg h6, if_pos h7]; rfl))
        ·
          refine rx_aload_n C.1 (pc := 61) d_Mob_notice_61 rfl ?_
          refine g_Mob_66 D b ca C (by first | assumption | (constructor <;> omega) | omega | decide) (pc := 62) d_Mob_notice_62 ?_
          refine rx_aload_n C.1 (pc := 65) d_Mob_notice_65 rfl ?_
          refine g_Mob_29 D b ca C (by first | assumption | (constructor <;> omega) | omega | decide) (pc := 66) d_Mob_notice_66 ?_
          refine rx_icmp_ne C.1 (pc := 69) d_Mob_notice_69 (tgt := 83) rfl (fun h8 => ?_) (fun h8 => ?_)
          ·
            refine rx_aload_n C.1 (pc := 83) d_Mob_notice_83 rfl ?_
            refine rx_iconst C.1 (v := 0) (pc := 84) d_Mob_notice_84 (by decide) ?_
            refine p_Mob_63 D b ca C (by first | assumption | (constructor <;> omega) | omega | decide) (pc := 85) d_Mob_notice_85 ?_
            exact rx_vret C (pc := 88) d_Mob_notice_88 (by unfold sp_Mob_notice; first | (simp only [if_pos h1, if_neg h2, if_neg h6, if_neg h7, if_neg h8]; done) | (simp only [if_pos h1, if_neg h2, if_neg h6, if_neg h7, if_neg h8]; rfl))
          ·
            refine rx_aload_n C.1 (pc := 72) d_Mob_notice_72 rfl ?_
            refine rx_aload_n C.1 (pc := 73) d_Mob_notice_73 rfl ?_
            refine g_Mob_66 D b ca C (by first | assumption | (constructor <;> omega) | omega | decide) (pc := 74) d_Mob_notice_74 ?_
            refine q_Mob_73 D b ca C (by first | assumption | (constructor <;> omega) | omega | decide) (pc := 77) d_Mob_notice_77 (c_Mob_registerWith l D b ca (by first | assumption | (constructor <;> omega) | omega | decide) ) ⟨Nat.le_of_ble_eq_true rfl, Nat.le_of_ble_eq_true rfl⟩ ⟨Nat.zero_le _, Nat.zero_le _⟩ (Nat.le_of_ble_eq_true rfl) ?_
            refine rx_goto C.1 (pc := 80) d_Mob_notice_80 (tgt := 88) rfl ?_
            exact rx_vret C (pc := 88) d_Mob_notice_88 (by unfold sp_Mob_notice; first | (simp only [if_pos h1, if_neg h2, if_neg h6, if_neg h7, if_pos h8]; done) | (simp only [if_pos h1, if_neg h2, if_neg h6, if_neg h7, if_pos h8]; rfl))
  ·
    refine rx_aload_n C.1 (pc := 14) d_Mob_notice_14 rfl ?_
    refine rx_iconst C.1 (v := (-1)) (pc := 15) d_Mob_notice_15 (by decide) ?_
    refine p_Mob_29 D b ca C (by first | assumption | (constructor <;> omega) | omega | decide) (pc := 16) d_Mob_notice_16 ?_
    refine rx_aload_n C.1 (pc := 19) d_Mob_notice_19 rfl ?_
    refine g_Mob_26 D b ca C (by first | assumption | (constructor <;> omega) | omega | decide) (pc := 20) d_Mob_notice_20 ?_
    refine rx_aload_n C.1 (pc := 23) d_Mob_notice_23 rfl ?_
    refine g_Mob_18 D b ca C (by first | assumption | (constructor <;> omega) | omega | decide) (pc := 24) d_Mob_notice_24 ?_
    refine g_Mob_55 D b ca C (pc := 27) d_Mob_notice_27 ?_
    refine rx_icmp_gt C.1 (pc := 30) d_Mob_notice_30 (tgt := 38) rfl (fun h9 => ?_) (fun h9 => ?_)
    ·
      refine rx_aload_n C.1 (pc := 38) d_Mob_notice_38 rfl ?_
      refine g_Mob_63 D b ca C (by first | assumption | (constructor <;> omega) | omega | decide) (pc := 39) d_Mob_notice_39 ?_
      refine rx_if_eq C.1 (pc := 42) d_Mob_notice_42 (tgt := 88) rfl (fun h10 => ?_) (fun h10 => ?_)
      ·
        exact rx_vret C (pc := 88) d_Mob_notice_88 (by unfold sp_Mob_notice; first | (simp only [if_neg h1, if_pos h9, if_pos h10]; done) | (simp only [if_neg h1, if_pos h9, if_pos h10]; rfl))
      ·
        refine rx_aload_n C.1 (pc := 45) d_Mob_notice_45 rfl ?_
        refine g_Mob_18 D b ca C (by first | assumption | (constructor <;> omega) | omega | decide) (pc := 46) d_Mob_notice_46 ?_
        refine g_Mob_55 D b ca C (pc := 49) d_Mob_notice_49 ?_
        refine rx_aload_n C.1 (pc := 52) d_Mob_notice_52 rfl ?_
        refine g_Mob_99 D b ca C (by first | assumption | (constructor <;> omega) | omega | decide) (pc := 53) d_Mob_notice_53 ?_
        refine rx_isub C.1 (pc := 56) d_Mob_notice_56 ?_
        refine rx_iconst C.1 (v := 3) (pc := 57) d_Mob_notice_57 (by decide) ?_
        refine rx_icmp_lt C.1 (pc := 58) d_Mob_notice_58 (tgt := 88) rfl (fun h11 => ?_) (fun h11 => ?_)
        ·
          exact rx_vret C (pc := 88) d_Mob_notice_88 (by unfold sp_Mob_notice; first | (simp only [if_neg h1, if_pos h9, if_neg h10, if_pos h11]; done) | (simp only [if_neg h1, if_pos h9, if_neg h10, if_pos h11]; rfl))
        ·
          refine rx_aload_n C.1 (pc := 61) d_Mob_notice_61 rfl ?_
          refine g_Mob_66 D b ca C (by first | assumption | (constructor <;> omega) | omega | decide) (pc := 62) d_Mob_notice_62 ?_
          refine rx_aload_n C.1 (pc := 65) d_Mob_notice_65 rfl ?_
          refine g_Mob_29 D b ca C (by first | assumption | (constructor <;> omega) | omega | decide) (pc := 66) d_Mob_notice_66 ?_
          refine rx_icmp_ne C.1 (pc := 69) d_Mob_notice_69 (tgt := 83) rfl (fun h12 => ?_) (fun h12 => ?_)
          ·
            refine rx_aload_n C.1 (pc := 83) d_Mob_notice_83 rfl ?_
            refine rx_iconst C.1 (v := 0) (pc := 84) d_Mob_notice_84 (by decide) ?_
            refine p_Mob_63 D b ca C (by first | assumption | (constructor <;> omega) | omega | decide) (pc := 85) d_Mob_notice_85 ?_
            exact rx_vret C (pc := 88) d_Mob_notice_88 (by unfold sp_Mob_notice; first | (simp only [if_neg h1, if_pos h9, if_neg h10, if_neg h11, if_neg h12]; done) | (simp only [if_neg h1, if_pos h9, if_neg h10, if_neg h11, if_neg h12]; rfl))
          ·
            refine rx_aload_n C.1 (pc := 72) d_Mob_notice_72 rfl ?_
            refine rx_aload_n C.1 (pc := 73) d_Mob_notice_73 rfl ?_
            refine g_Mob_66 D b ca C (by first | assumption | (constructor <;> omega) | omega | decide) (pc := 74) d_Mob_notice_74 ?_
            refine q_Mob_73 D b ca C (by first | assumption | (constructor <;> omega) | omega | decide) (pc := 77) d_Mob_notice_77 (c_Mob_registerWith l D b ca (by first | assumption | (constructor <;> omega) | omega | decide) ) ⟨Nat.le_of_ble_eq_true rfl, Nat.le_of_ble_eq_true rfl⟩ ⟨Nat.zero_le _, Nat.zero_le _⟩ (Nat.le_of_ble_eq_true rfl) ?_
            refine rx_goto C.1 (pc := 80) d_Mob_notice_80 (tgt := 88) rfl ?_
            exact rx_vret C (pc := 88) d_Mob_notice_88 (by unfold sp_Mob_notice; first | (simp only [if_neg h1, if_pos h9, if_neg h10, if_neg h11, if_pos h12]; done) | (simp only [if_neg h1, if_pos h9, if_neg h10, if_neg h11, if_pos h12]; rfl))
    ·
      refine rx_aload_n C.1 (pc := 33) d_Mob_notice_33 rfl ?_
      refine rx_iconst C.1 (v := (-1)) (pc := 34) d_Mob_notice_34 (by decide) ?_
      refine p_Mob_22 D b ca C (by first | assumption | (constructor <;> omega) | omega | decide) (pc := 35) d_Mob_notice_35 ?_
      refine rx_aload_n C.1 (pc := 38) d_Mob_notice_38 rfl ?_
      refine g_Mob_63 D b ca C (by first | assumption | (constructor <;> omega) | omega | decide) (pc := 39) d_Mob_notice_39 ?_
      refine rx_if_eq C.1 (pc := 42) d_Mob_notice_42 (tgt := 88) rfl (fun h13 => ?_) (fun h13 => ?_)
      ·
        exact rx_vret C (pc := 88) d_Mob_notice_88 (by unfold sp_Mob_notice; first | (simp only [if_neg h1, if_neg h9, if_pos h13]; done) | (simp only [if_neg h1, if_neg h9, if_pos h13]; rfl))
      ·
        refine rx_aload_n C.1 (pc := 45) d_Mob_notice_45 rfl ?_
        refine g_Mob_18 D b ca C (by first | assumption | (constructor <;> omega) | omega | decide) (pc := 46) d_Mob_notice_46 ?_
        refine g_Mob_55 D b ca C (pc := 49) d_Mob_notice_49 ?_
        refine rx_aload_n C.1 (pc := 52) d_Mob_notice_52 rfl ?_
        refine g_Mob_99 D b ca C (by first | assumption | (constructor <;> omega) | omega | decide) (pc := 53) d_Mob_notice_53 ?_
        refine rx_isub C.1 (pc := 56) d_Mob_notice_56 ?_
        refine rx_iconst C.1 (v := 3) (pc := 57) d_Mob_notice_57 (by decide) ?_
        refine rx_icmp_lt C.1 (pc := 58) d_Mob_notice_58 (tgt := 88) rfl (fun h14 => ?_) (fun h14 => ?_)
        ·
          exact rx_vret C (pc := 88) d_Mob_notice_88 (by unfold sp_Mob_notice; first | (simp only [if_neg h1, if_neg h9, if_neg h13, if_pos h14]; done) | (simp only [if_neg h1, if_neg h9, if_neg h13, if_pos h14]; rfl))
        ·
          refine rx_aload_n C.1 (pc := 61) d_Mob_notice_61 rfl ?_
          refine g_Mob_66 D b ca C (by first | assumption | (constructor <;> omega) | omega | decide) (pc := 62) d_Mob_notice_62 ?_
          refine rx_aload_n C.1 (pc := 65) d_Mob_notice_65 rfl ?_
          refine g_Mob_29 D b ca C (by first | assumption | (constructor <;> omega) | omega | decide) (pc := 66) d_Mob_notice_66 ?_
          refine rx_icmp_ne C.1 (pc := 69) d_Mob_notice_69 (tgt := 83) rfl (fun h15 => ?_) (fun h15 => ?_)
          ·
            refine rx_aload_n C.1 (pc := 83) d_Mob_notice_83 rfl ?_
            refine rx_iconst C.1 (v := 0) (pc := 84) d_Mob_notice_84 (by decide) ?_
            refine p_Mob_63 D b ca C (by first | assumption | (constructor <;> omega) | omega | decide) (pc := 85) d_Mob_notice_85 ?_
            exact rx_vret C (pc := 88) d_Mob_notice_88 (by unfold sp_Mob_notice; first | (simp only [if_neg h1, if_neg h9, if_neg h13, if_neg h14, if_neg h15]; done) | (simp only [if_neg h1, if_neg h9, if_neg h13, if_neg h14, if_neg h15]; rfl))
          ·
            refine rx_aload_n C.1 (pc := 72) d_Mob_notice_72 rfl ?_
            refine rx_aload_n C.1 (pc := 73) d_Mob_notice_73 rfl ?_
            refine g_Mob_66 D b ca C (by first | assumption | (constructor <;> omega) | omega | decide) (pc := 74) d_Mob_notice_74 ?_
            refine q_Mob_73 D b ca C (by first | assumption | (constructor <;> omega) | omega | decide) (pc := 77) d_Mob_notice_77 (c_Mob_registerWith l D b ca (by first | assumption | (constructor <;> omega) | omega | decide) ) ⟨Nat.le_of_ble_eq_true rfl, Nat.le_of_ble_eq_true rfl⟩ ⟨Nat.zero_le _, Nat.zero_le _⟩ (Nat.le_of_ble_eq_true rfl) ?_
            refine rx_goto C.1 (pc := 80) d_Mob_notice_80 (tgt := 88) rfl ?_
            exact rx_vret C (pc := 88) d_Mob_notice_88 (by unfold sp_Mob_notice; first | (simp only [if_neg h1, if_neg h9, if_neg h13, if_neg h14, if_pos h15]; done) | (simp only [if_neg h1, if_neg h9, if_neg h13, if_neg h14, if_pos h15]; rfl))

def rv_Home_isBound (σ : rMem) (m : Int32) : Int32 := if (σ 52 m.toNatClampNeg) ≤ (σ 1 2) then 0 else 1
set_option maxHeartbeats 4000000 in
set_option maxRecDepth 100000 in
theorem c_Home_isBound (l : Launch) (D : va_G) (b : Nat) (ca : Nat → ClassId) {σ : rMem} {m : Int32} (hm : rx_iM m) : rx_C l (rx_fin D b ca) y_Home_isBound b_Home_isBound 2 (some .boolean) (rx_rm 0) [.ref (rg_A (rx_fin D b ca) 48), .int m] σ (some (.int (rv_Home_isBound σ m))) σ := by
  refine rx_of (lo := [(0, .ref (rg_A (rx_fin D b ca) 48)), (1, .int m)]) (by decide) (rx_fin_D D b ca) rfl (Nat.le_of_ble_eq_true rfl) rfl ?_
  intro p e s mm below meth c C
  refine rx_aload_n C.1 (pc := 0) d_Home_isBound_0 rfl ?_
  refine g_Home_15 D b ca C (pc := 1) d_Home_isBound_1 ?_
  refine g_Home_32 D b ca C (pc := 4) d_Home_isBound_4 ?_
  refine rx_aload_n C.1 (pc := 7) d_Home_isBound_7 rfl ?_
  refine g_Home_29 D b ca C (pc := 8) d_Home_isBound_8 ?_
  refine rx_iload_n C.1 (pc := 11) d_Home_isBound_11 rfl ?_
  refine rx_iald C (i := 52) (n := 2) (pc := 12) d_Home_isBound_12 (rx_lt (by decide)) rfl (by first | assumption | exact rx_in2 (by assumption) | exact rx_v02 | exact rx_v12 | exact vp_in_iff.mpr (by decide)) ?_
  refine rx_icmp_ge C.1 (pc := 13) d_Home_isBound_13 (tgt := 20) rfl (fun h1 => ?_) (fun h1 => ?_)
  ·
    refine rx_iconst C.1 (v := 0) (pc := 20) d_Home_isBound_20 (by decide) ?_
    exact rx_zret C (pc := 21) d_Home_isBound_21 (Or.inl rfl) (by unfold rv_Home_isBound; first | (simp only [if_pos h1]; done) | (simp only [if_pos h1]; rfl)) rfl
  ·
    refine rx_iconst C.1 (v := 1) (pc := 16) d_Home_isBound_16 (by decide) ?_
    refine rx_goto C.1 (pc := 17) d_Home_isBound_17 (tgt := 21) rfl ?_
    exact rx_zret C (pc := 21) d_Home_isBound_21 (Or.inr rfl) (by unfold rv_Home_isBound; first | (simp only [if_neg h1]; done) | (simp only [if_neg h1]; rfl)) rfl

def rv_Home_judge (σ : rMem) (r : Nat) : Int32 := if (σ r 8) = (rv_Msg_requestSeal σ r (σ 49 (σ r 3).toNatClampNeg)) then (if (σ 50 (σ r 3).toNatClampNeg) < (σ r 4) then 0 else 133) else 131
set_option maxHeartbeats 4000000 in
set_option maxRecDepth 100000 in
theorem c_Home_judge (l : Launch) (D : va_G) (b : Nat) (ca : Nat → ClassId) {σ : rMem} {r : Nat} (hr : 3 ≤ r ∧ r < 45) (hm : rx_iM (σ r 3)) : rx_C l (rx_fin D b ca) y_Home_judge b_Home_judge 3 (some .int) (rx_rm 2) [.ref (rg_A (rx_fin D b ca) 48), .ref (rg_A (rx_fin D b ca) r)] σ (some (.int (rv_Home_judge σ r))) σ := by
  refine rx_of (lo := [(0, .ref (rg_A (rx_fin D b ca) 48)), (1, .ref (rg_A (rx_fin D b ca) r))]) (by decide) (rx_fin_D D b ca) rfl (Nat.le_of_ble_eq_true rfl) rfl ?_
  intro p e s mm below meth c C
  refine rx_aload_n C.1 (pc := 0) d_Home_judge_0 rfl ?_
  refine g_Home_46 D b ca C (by first | assumption | (constructor <;> omega) | omega | decide) (pc := 1) d_Home_judge_1 ?_
  refine rx_istore_n C.1 (pc := 4) d_Home_judge_4 (by decide) ?_
  refine rx_aload_n C.1 (pc := 5) d_Home_judge_5 rfl ?_
  refine g_Home_85 D b ca C (by first | assumption | (constructor <;> omega) | omega | decide) (pc := 6) d_Home_judge_6 ?_
  refine rx_aload_n C.1 (pc := 9) d_Home_judge_9 rfl ?_
  refine rx_aload_n C.1 (pc := 10) d_Home_judge_10 rfl ?_
  refine g_Home_19 D b ca C (pc := 11) d_Home_judge_11 ?_
  refine rx_iload_n C.1 (pc := 14) d_Home_judge_14 rfl ?_
  refine rx_iald C (i := 49) (n := 2) (pc := 15) d_Home_judge_15 (rx_lt (by decide)) rfl (by first | assumption | exact rx_in2 (by assumption) | exact rx_v02 | exact rx_v12 | exact vp_in_iff.mpr (by decide)) ?_
  refine q_Home_88 D b ca C (by first | assumption | (constructor <;> omega) | omega | decide) (pc := 16) d_Home_judge_16 (c_Msg_requestSeal l D b ca (by first | assumption | (constructor <;> omega) | omega | decide) ) ⟨Nat.le_of_ble_eq_true rfl, Nat.le_of_ble_eq_true rfl⟩ ⟨Nat.zero_le _, Nat.zero_le _⟩ (Nat.le_of_ble_eq_true rfl) ?_
  refine rx_icmp_eq C.1 (pc := 19) d_Home_judge_19 (tgt := 26) rfl (fun h1 => ?_) (fun h1 => ?_)
  ·
    refine rx_aload_n C.1 (pc := 26) d_Home_judge_26 rfl ?_
    refine g_Home_49 D b ca C (by first | assumption | (constructor <;> omega) | omega | decide) (pc := 27) d_Home_judge_27 ?_
    refine rx_aload_n C.1 (pc := 30) d_Home_judge_30 rfl ?_
    refine g_Home_23 D b ca C (pc := 31) d_Home_judge_31 ?_
    refine rx_iload_n C.1 (pc := 34) d_Home_judge_34 rfl ?_
    refine rx_iald C (i := 50) (n := 2) (pc := 35) d_Home_judge_35 (rx_lt (by decide)) rfl (by first | assumption | exact rx_in2 (by assumption) | exact rx_v02 | exact rx_v12 | exact vp_in_iff.mpr (by decide)) ?_
    refine rx_icmp_gt C.1 (pc := 36) d_Home_judge_36 (tgt := 45) rfl (fun h2 => ?_) (fun h2 => ?_)
    ·
      refine rx_iconst C.1 (v := 0) (pc := 45) d_Home_judge_45 (by decide) ?_
      exact rx_iret C (pc := 46) d_Home_judge_46 (by unfold rv_Home_judge; first | (simp only [if_pos h1, if_pos h2]; done) | (simp only [if_pos h1, if_pos h2]; rfl)) rfl
    ·
      refine rx_sipush C.1 (v := 133) (pc := 39) d_Home_judge_39 (by decide) ?_
      refine rx_goto C.1 (pc := 42) d_Home_judge_42 (tgt := 46) rfl ?_
      exact rx_iret C (pc := 46) d_Home_judge_46 (by unfold rv_Home_judge; first | (simp only [if_pos h1, if_neg h2]; done) | (simp only [if_pos h1, if_neg h2]; rfl)) rfl
  ·
    refine rx_sipush C.1 (v := 131) (pc := 22) d_Home_judge_22 (by decide) ?_
    exact rx_iret C (pc := 25) d_Home_judge_25 (by unfold rv_Home_judge; first | (simp only [if_neg h1]; done) | (simp only [if_neg h1]; rfl)) rfl

def sp_Home_takeRequest (σ : rMem) (r : Nat) : rMem := if (rv_Home_judge σ r) = 0 then (let m11 := rx_wr σ 50 (σ r 3).toNatClampNeg (σ r 4); let m12 := rx_wr m11 51 (σ r 3).toNatClampNeg (m11 r 5); let m13 := rx_wr m12 52 (σ r 3).toNatClampNeg ((m12 1 2) + (if (σ 48 0) < (σ r 7) then (σ 48 0) else (σ r 7))); if (m13 r 5) = 0 then (let m19 := (sp_Wire_sendInNetwork m13 0 3 (σ r 3) (m13 r 4)).1; let m20 := rx_wr m19 ((sp_Wire_sendInNetwork m13 0 3 (σ r 3) (m13 r 4)).2) 5 (m19 r 5); let m21 := rx_wr m20 ((sp_Wire_sendInNetwork m13 0 3 (σ r 3) (m13 r 4)).2) 6 (rv_Home_judge σ r); let m22 := rx_wr m21 ((sp_Wire_sendInNetwork m13 0 3 (σ r 3) (m13 r 4)).2) 7 (if (σ 48 0) < (σ r 7) then (σ 48 0) else (σ r 7)); let m23 := rx_wr m22 ((sp_Wire_sendInNetwork m13 0 3 (σ r 3) (m13 r 4)).2) 8 (rv_Msg_replySeal m22 ((sp_Wire_sendInNetwork m13 0 3 (σ r 3) (m13 r 4)).2) (m22 49 (σ r 3).toNatClampNeg)); m23) else (let m14 := (sp_Wire_sendTo m13 (m13 r 5) 3 (σ r 3) (m13 r 4)).1; let m15 := rx_wr m14 ((sp_Wire_sendTo m13 (m13 r 5) 3 (σ r 3) (m13 r 4)).2) 5 (m14 r 5); let m16 := rx_wr m15 ((sp_Wire_sendTo m13 (m13 r 5) 3 (σ r 3) (m13 r 4)).2) 6 (rv_Home_judge σ r); let m17 := rx_wr m16 ((sp_Wire_sendTo m13 (m13 r 5) 3 (σ r 3) (m13 r 4)).2) 7 (if (σ 48 0) < (σ r 7) then (σ 48 0) else (σ r 7)); let m18 := rx_wr m17 ((sp_Wire_sendTo m13 (m13 r 5) 3 (σ r 3) (m13 r 4)).2) 8 (rv_Msg_replySeal m17 ((sp_Wire_sendTo m13 (m13 r 5) 3 (σ r 3) (m13 r 4)).2) (m17 49 (σ r 3).toNatClampNeg)); m18)) else (if (σ r 5) = 0 then (let m6 := (sp_Wire_sendInNetwork σ 0 3 (σ r 3) (σ r 4)).1; let m7 := rx_wr m6 ((sp_Wire_sendInNetwork σ 0 3 (σ r 3) (σ r 4)).2) 5 (m6 r 5); let m8 := rx_wr m7 ((sp_Wire_sendInNetwork σ 0 3 (σ r 3) (σ r 4)).2) 6 (rv_Home_judge σ r); let m9 := rx_wr m8 ((sp_Wire_sendInNetwork σ 0 3 (σ r 3) (σ r 4)).2) 7 0; let m10 := rx_wr m9 ((sp_Wire_sendInNetwork σ 0 3 (σ r 3) (σ r 4)).2) 8 (rv_Msg_replySeal m9 ((sp_Wire_sendInNetwork σ 0 3 (σ r 3) (σ r 4)).2) (m9 49 (σ r 3).toNatClampNeg)); m10) else (let m1 := (sp_Wire_sendTo σ (σ r 5) 3 (σ r 3) (σ r 4)).1; let m2 := rx_wr m1 ((sp_Wire_sendTo σ (σ r 5) 3 (σ r 3) (σ r 4)).2) 5 (m1 r 5); let m3 := rx_wr m2 ((sp_Wire_sendTo σ (σ r 5) 3 (σ r 3) (σ r 4)).2) 6 (rv_Home_judge σ r); let m4 := rx_wr m3 ((sp_Wire_sendTo σ (σ r 5) 3 (σ r 3) (σ r 4)).2) 7 0; let m5 := rx_wr m4 ((sp_Wire_sendTo σ (σ r 5) 3 (σ r 3) (σ r 4)).2) 8 (rv_Msg_replySeal m4 ((sp_Wire_sendTo σ (σ r 5) 3 (σ r 3) (σ r 4)).2) (m4 49 (σ r 3).toNatClampNeg)); m5))
set_option maxHeartbeats 4000000 in
set_option maxRecDepth 100000 in
theorem c_Home_takeRequest (l : Launch) (D : va_G) (b : Nat) (ca : Nat → ClassId) {σ : rMem} {r : Nat} (hr : 3 ≤ r ∧ r < 45) (hm : rx_iM (σ r 3)) : rx_C l (rx_fin D b ca) y_Home_takeRequest b_Home_takeRequest 6 none (rx_rm 4) [.ref (rg_A (rx_fin D b ca) 48), .ref (rg_A (rx_fin D b ca) r)] σ none (sp_Home_takeRequest σ r) := by
  refine rx_of (lo := [(0, .ref (rg_A (rx_fin D b ca) 48)), (1, .ref (rg_A (rx_fin D b ca) r))]) (by decide) (rx_fin_D D b ca) rfl (Nat.le_of_ble_eq_true rfl) rfl ?_
  intro p e s mm below meth c C
  refine rx_aload_n C.1 (pc := 0) d_Home_takeRequest_0 rfl ?_
  refine g_Home_46 D b ca C (by first | assumption | (constructor <;> omega) | omega | decide) (pc := 1) d_Home_takeRequest_1 ?_
  refine rx_istore_n C.1 (pc := 4) d_Home_takeRequest_4 (by decide) ?_
  refine rx_aload_n C.1 (pc := 5) d_Home_takeRequest_5 rfl ?_
  refine rx_aload_n C.1 (pc := 6) d_Home_takeRequest_6 rfl ?_
  refine q_Home_56 D b ca C (pc := 7) d_Home_takeRequest_7 (c_Home_judge l D b ca (by first | assumption | exact rx_iM0 | exact rx_iM1 | (constructor <;> omega)) (by first | assumption | exact rx_iM0 | exact rx_iM1 | (constructor <;> omega))) ⟨Nat.le_of_ble_eq_true rfl, Nat.le_of_ble_eq_true rfl⟩ ⟨Nat.zero_le _, Nat.zero_le _⟩ (Nat.le_of_ble_eq_true rfl) ?_
  refine rx_istore_n C.1 (pc := 10) d_Home_takeRequest_10 (by decide) ?_
  refine rx_iload_n C.1 (pc := 11) d_Home_takeRequest_11 rfl ?_
  refine rx_if_ne C.1 (pc := 12) d_Home_takeRequest_12 (tgt := 29) rfl (fun h1 => ?_) (fun h1 => ?_)
  ·
    refine rx_iconst C.1 (v := 0) (pc := 29) d_Home_takeRequest_29 (by decide) ?_
    refine rx_istore C.1 (pc := 30) d_Home_takeRequest_30 (by decide) ?_
    refine rx_iload_n C.1 (pc := 32) d_Home_takeRequest_32 rfl ?_
    refine rx_if_ne C.1 (pc := 33) d_Home_takeRequest_33 (tgt := 72) rfl (fun _ => ?_) (fun h9 => absurd h9 h1)
    refine rx_aload_n C.1 (pc := 72) d_Home_takeRequest_72 rfl ?_
    refine g_Home_69 D b ca C (by first | assumption | (constructor <;> omega) | omega | decide) (pc := 73) d_Home_takeRequest_73 ?_
    refine rx_if_ne C.1 (pc := 76) d_Home_takeRequest_76 (tgt := 96) rfl (fun h2 => ?_) (fun h2 => ?_)
    ·
      refine rx_aload_n C.1 (pc := 96) d_Home_takeRequest_96 rfl ?_
      refine g_Home_15 D b ca C (pc := 97) d_Home_takeRequest_97 ?_
      refine rx_aload_n C.1 (pc := 100) d_Home_takeRequest_100 rfl ?_
      refine g_Home_69 D b ca C (by first | assumption | (constructor <;> omega) | omega | decide) (pc := 101) d_Home_takeRequest_101 ?_
      refine rx_iconst C.1 (v := 3) (pc := 104) d_Home_takeRequest_104 (by decide) ?_
      refine rx_iload_n C.1 (pc := 105) d_Home_takeRequest_105 rfl ?_
      refine rx_aload_n C.1 (pc := 106) d_Home_takeRequest_106 rfl ?_
      refine g_Home_49 D b ca C (by first | assumption | (constructor <;> omega) | omega | decide) (pc := 107) d_Home_takeRequest_107 ?_
      refine q_Home_75 D b ca C (pc := 110) d_Home_takeRequest_110 (c_Wire_sendTo l D b ca ) (fun hI => rq_Wire_sendTo hI) ⟨Nat.le_of_ble_eq_true rfl, Nat.le_of_ble_eq_true rfl⟩ ⟨Nat.zero_le _, Nat.zero_le _⟩ (Nat.le_of_ble_eq_true rfl) (fun hq2 => ?_)
      refine rx_astore C.1 (pc := 113) d_Home_takeRequest_113 (by decide) ?_
      refine rx_aload C.1 (pc := 115) d_Home_takeRequest_115 rfl ?_
      refine rx_aload_n C.1 (pc := 117) d_Home_takeRequest_117 rfl ?_
      refine g_Home_69 D b ca C (by first | assumption | (constructor <;> omega) | omega | decide) (pc := 118) d_Home_takeRequest_118 ?_
      refine p_Home_69 D b ca C (by first | assumption | (constructor <;> omega) | omega | decide) (pc := 121) d_Home_takeRequest_121 ?_
      refine rx_aload C.1 (pc := 124) d_Home_takeRequest_124 rfl ?_
      refine rx_iload_n C.1 (pc := 126) d_Home_takeRequest_126 rfl ?_
      refine p_Home_78 D b ca C (by first | assumption | (constructor <;> omega) | omega | decide) (pc := 127) d_Home_takeRequest_127 ?_
      refine rx_aload C.1 (pc := 130) d_Home_takeRequest_130 rfl ?_
      refine rx_iload C.1 (pc := 132) d_Home_takeRequest_132 rfl ?_
      refine p_Home_60 D b ca C (by first | assumption | (constructor <;> omega) | omega | decide) (pc := 134) d_Home_takeRequest_134 ?_
      refine rx_aload C.1 (pc := 137) d_Home_takeRequest_137 rfl ?_
      refine rx_aload C.1 (pc := 139) d_Home_takeRequest_139 rfl ?_
      refine rx_aload_n C.1 (pc := 141) d_Home_takeRequest_141 rfl ?_
      refine g_Home_19 D b ca C (pc := 142) d_Home_takeRequest_142 ?_
      refine rx_iload_n C.1 (pc := 145) d_Home_takeRequest_145 rfl ?_
      refine rx_iald C (i := 49) (n := 2) (pc := 146) d_Home_takeRequest_146 (rx_lt (by decide)) rfl (by first | assumption | exact rx_in2 (by assumption) | exact rx_v02 | exact rx_v12 | exact vp_in_iff.mpr (by decide)) ?_
      refine q_Home_81 D b ca C (by first | assumption | (constructor <;> omega) | omega | decide) (pc := 147) d_Home_takeRequest_147 (c_Msg_replySeal l D b ca (by first | assumption | (constructor <;> omega) | omega | decide) ) ⟨Nat.le_of_ble_eq_true rfl, Nat.le_of_ble_eq_true rfl⟩ ⟨Nat.zero_le _, Nat.zero_le _⟩ (Nat.le_of_ble_eq_true rfl) ?_
      refine p_Home_85 D b ca C (by first | assumption | (constructor <;> omega) | omega | decide) (pc := 150) d_Home_takeRequest_150 ?_
      exact rx_vret C (pc := 153) d_Home_takeRequest_153 (by unfold sp_Home_takeRequest; first | (simp only [if_neg h1, if_neg h2]; done) | (simp only [if_neg h1, if_neg h2]; rfl))
    ·
      refine rx_aload_n C.1 (pc := 79) d_Home_takeRequest_79 rfl ?_
      refine g_Home_15 D b ca C (pc := 80) d_Home_takeRequest_80 ?_
      refine rx_iconst C.1 (v := 0) (pc := 83) d_Home_takeRequest_83 (by decide) ?_
      refine rx_iconst C.1 (v := 3) (pc := 84) d_Home_takeRequest_84 (by decide) ?_
      refine rx_iload_n C.1 (pc := 85) d_Home_takeRequest_85 rfl ?_
      refine rx_aload_n C.1 (pc := 86) d_Home_takeRequest_86 rfl ?_
      refine g_Home_49 D b ca C (by first | assumption | (constructor <;> omega) | omega | decide) (pc := 87) d_Home_takeRequest_87 ?_
      refine q_Home_71 D b ca C (pc := 90) d_Home_takeRequest_90 (c_Wire_sendInNetwork l D b ca ) (fun hI => rq_Wire_sendInNetwork hI) ⟨Nat.le_of_ble_eq_true rfl, Nat.le_of_ble_eq_true rfl⟩ ⟨Nat.zero_le _, Nat.zero_le _⟩ (Nat.le_of_ble_eq_true rfl) (fun hq4 => ?_)
      refine rx_goto C.1 (pc := 93) d_Home_takeRequest_93 (tgt := 113) rfl ?_
      refine rx_astore C.1 (pc := 113) d_Home_takeRequest_113 (by decide) ?_
      refine rx_aload C.1 (pc := 115) d_Home_takeRequest_115 rfl ?_
      refine rx_aload_n C.1 (pc := 117) d_Home_takeRequest_117 rfl ?_
      refine g_Home_69 D b ca C (by first | assumption | (constructor <;> omega) | omega | decide) (pc := 118) d_Home_takeRequest_118 ?_
      refine p_Home_69 D b ca C (by first | assumption | (constructor <;> omega) | omega | decide) (pc := 121) d_Home_takeRequest_121 ?_
      refine rx_aload C.1 (pc := 124) d_Home_takeRequest_124 rfl ?_
      refine rx_iload_n C.1 (pc := 126) d_Home_takeRequest_126 rfl ?_
      refine p_Home_78 D b ca C (by first | assumption | (constructor <;> omega) | omega | decide) (pc := 127) d_Home_takeRequest_127 ?_
      refine rx_aload C.1 (pc := 130) d_Home_takeRequest_130 rfl ?_
      refine rx_iload C.1 (pc := 132) d_Home_takeRequest_132 rfl ?_
      refine p_Home_60 D b ca C (by first | assumption | (constructor <;> omega) | omega | decide) (pc := 134) d_Home_takeRequest_134 ?_
      refine rx_aload C.1 (pc := 137) d_Home_takeRequest_137 rfl ?_
      refine rx_aload C.1 (pc := 139) d_Home_takeRequest_139 rfl ?_
      refine rx_aload_n C.1 (pc := 141) d_Home_takeRequest_141 rfl ?_
      refine g_Home_19 D b ca C (pc := 142) d_Home_takeRequest_142 ?_
      refine rx_iload_n C.1 (pc := 145) d_Home_takeRequest_145 rfl ?_
      refine rx_iald C (i := 49) (n := 2) (pc := 146) d_Home_takeRequest_146 (rx_lt (by decide)) rfl (by first | assumption | exact rx_in2 (by assumption) | exact rx_v02 | exact rx_v12 | exact vp_in_iff.mpr (by decide)) ?_
      refine q_Home_81 D b ca C (by first | assumption | (constructor <;> omega) | omega | decide) (pc := 147) d_Home_takeRequest_147 (c_Msg_replySeal l D b ca (by first | assumption | (constructor <;> omega) | omega | decide) ) ⟨Nat.le_of_ble_eq_true rfl, Nat.le_of_ble_eq_true rfl⟩ ⟨Nat.zero_le _, Nat.zero_le _⟩ (Nat.le_of_ble_eq_true rfl) ?_
      refine p_Home_85 D b ca C (by first | assumption | (constructor <;> omega) | omega | decide) (pc := 150) d_Home_takeRequest_150 ?_
      exact rx_vret C (pc := 153) d_Home_takeRequest_153 (by unfold sp_Home_takeRequest; first | (simp only [if_neg h1, if_pos h2]; done) | (simp only [if_neg h1, if_pos h2]; rfl))
  ·
    refine rx_aload_n C.1 (pc := 15) d_Home_takeRequest_15 rfl ?_
    refine g_Home_60 D b ca C (by first | assumption | (constructor <;> omega) | omega | decide) (pc := 16) d_Home_takeRequest_16 ?_
    refine rx_aload_n C.1 (pc := 19) d_Home_takeRequest_19 rfl ?_
    refine g_Home_9 D b ca C (pc := 20) d_Home_takeRequest_20 ?_
    refine rx_min D b ca C (pc := 23) d_Home_takeRequest_23 (Nat.le_of_ble_eq_true rfl) (Nat.le_of_ble_eq_true rfl) ⟨Nat.zero_le _, Nat.zero_le _⟩ ?_
    refine rx_goto C.1 (pc := 26) d_Home_takeRequest_26 (tgt := 30) rfl ?_
    refine rx_istore C.1 (pc := 30) d_Home_takeRequest_30 (by decide) ?_
    refine rx_iload_n C.1 (pc := 32) d_Home_takeRequest_32 rfl ?_
    refine rx_if_ne C.1 (pc := 33) d_Home_takeRequest_33 (tgt := 72) rfl (fun h9 => absurd h1 h9) (fun _ => ?_)
    refine rx_aload_n C.1 (pc := 36) d_Home_takeRequest_36 rfl ?_
    refine g_Home_23 D b ca C (pc := 37) d_Home_takeRequest_37 ?_
    refine rx_iload_n C.1 (pc := 40) d_Home_takeRequest_40 rfl ?_
    refine rx_aload_n C.1 (pc := 41) d_Home_takeRequest_41 rfl ?_
    refine g_Home_49 D b ca C (by first | assumption | (constructor <;> omega) | omega | decide) (pc := 42) d_Home_takeRequest_42 ?_
    refine rx_iast C (i := 50) (n := 2) (pc := 45) d_Home_takeRequest_45 (rx_lt (by decide)) (fun _ => rfl) (by first | assumption | exact rx_in2 (by assumption) | exact rx_v02 | exact rx_v12 | exact vp_in_iff.mpr (by decide)) (rx_SI_wr (by omega)) ?_
    refine rx_aload_n C.1 (pc := 46) d_Home_takeRequest_46 rfl ?_
    refine g_Home_26 D b ca C (pc := 47) d_Home_takeRequest_47 ?_
    refine rx_iload_n C.1 (pc := 50) d_Home_takeRequest_50 rfl ?_
    refine rx_aload_n C.1 (pc := 51) d_Home_takeRequest_51 rfl ?_
    refine g_Home_69 D b ca C (by first | assumption | (constructor <;> omega) | omega | decide) (pc := 52) d_Home_takeRequest_52 ?_
    refine rx_iast C (i := 51) (n := 2) (pc := 55) d_Home_takeRequest_55 (rx_lt (by decide)) (fun _ => rfl) (by first | assumption | exact rx_in2 (by assumption) | exact rx_v02 | exact rx_v12 | exact vp_in_iff.mpr (by decide)) (rx_SI_wr (by omega)) ?_
    refine rx_aload_n C.1 (pc := 56) d_Home_takeRequest_56 rfl ?_
    refine g_Home_29 D b ca C (pc := 57) d_Home_takeRequest_57 ?_
    refine rx_iload_n C.1 (pc := 60) d_Home_takeRequest_60 rfl ?_
    refine rx_aload_n C.1 (pc := 61) d_Home_takeRequest_61 rfl ?_
    refine g_Home_15 D b ca C (pc := 62) d_Home_takeRequest_62 ?_
    refine g_Home_32 D b ca C (pc := 65) d_Home_takeRequest_65 ?_
    refine rx_iload C.1 (pc := 68) d_Home_takeRequest_68 rfl ?_
    refine rx_iadd C.1 (pc := 70) d_Home_takeRequest_70 ?_
    refine rx_iast C (i := 52) (n := 2) (pc := 71) d_Home_takeRequest_71 (rx_lt (by decide)) (fun _ => rfl) (by first | assumption | exact rx_in2 (by assumption) | exact rx_v02 | exact rx_v12 | exact vp_in_iff.mpr (by decide)) (rx_SI_wr (by omega)) ?_
    refine rx_aload_n C.1 (pc := 72) d_Home_takeRequest_72 rfl ?_
    refine g_Home_69 D b ca C (by first | assumption | (constructor <;> omega) | omega | decide) (pc := 73) d_Home_takeRequest_73 ?_
    refine rx_if_ne C.1 (pc := 76) d_Home_takeRequest_76 (tgt := 96) rfl (fun h3 => ?_) (fun h3 => ?_)
    ·
      refine rx_aload_n C.1 (pc := 96) d_Home_takeRequest_96 rfl ?_
      refine g_Home_15 D b ca C (pc := 97) d_Home_takeRequest_97 ?_
      refine rx_aload_n C.1 (pc := 100) d_Home_takeRequest_100 rfl ?_
      refine g_Home_69 D b ca C (by first | assumption | (constructor <;> omega) | omega | decide) (pc := 101) d_Home_takeRequest_101 ?_
      refine rx_iconst C.1 (v := 3) (pc := 104) d_Home_takeRequest_104 (by decide) ?_
      refine rx_iload_n C.1 (pc := 105) d_Home_takeRequest_105 rfl ?_
      refine rx_aload_n C.1 (pc := 106) d_Home_takeRequest_106 rfl ?_
      refine g_Home_49 D b ca C (by first | assumption | (constructor <;> omega) | omega | decide) (pc := 107) d_Home_takeRequest_107 ?_
      refine q_Home_75 D b ca C (pc := 110) d_Home_takeRequest_110 (c_Wire_sendTo l D b ca ) (fun hI => rq_Wire_sendTo hI) ⟨Nat.le_of_ble_eq_true rfl, Nat.le_of_ble_eq_true rfl⟩ ⟨Nat.zero_le _, Nat.zero_le _⟩ (Nat.le_of_ble_eq_true rfl) (fun hq6 => ?_)
      refine rx_astore C.1 (pc := 113) d_Home_takeRequest_113 (by decide) ?_
      refine rx_aload C.1 (pc := 115) d_Home_takeRequest_115 rfl ?_
      refine rx_aload_n C.1 (pc := 117) d_Home_takeRequest_117 rfl ?_
      refine g_Home_69 D b ca C (by first | assumption | (constructor <;> omega) | omega | decide) (pc := 118) d_Home_takeRequest_118 ?_
      refine p_Home_69 D b ca C (by first | assumption | (constructor <;> omega) | omega | decide) (pc := 121) d_Home_takeRequest_121 ?_
      refine rx_aload C.1 (pc := 124) d_Home_takeRequest_124 rfl ?_
      refine rx_iload_n C.1 (pc := 126) d_Home_takeRequest_126 rfl ?_
      refine p_Home_78 D b ca C (by first | assumption | (constructor <;> omega) | omega | decide) (pc := 127) d_Home_takeRequest_127 ?_
      refine rx_aload C.1 (pc := 130) d_Home_takeRequest_130 rfl ?_
      refine rx_iload C.1 (pc := 132) d_Home_takeRequest_132 rfl ?_
      refine p_Home_60 D b ca C (by first | assumption | (constructor <;> omega) | omega | decide) (pc := 134) d_Home_takeRequest_134 ?_
      refine rx_aload C.1 (pc := 137) d_Home_takeRequest_137 rfl ?_
      refine rx_aload C.1 (pc := 139) d_Home_takeRequest_139 rfl ?_
      refine rx_aload_n C.1 (pc := 141) d_Home_takeRequest_141 rfl ?_
      refine g_Home_19 D b ca C (pc := 142) d_Home_takeRequest_142 ?_
      refine rx_iload_n C.1 (pc := 145) d_Home_takeRequest_145 rfl ?_
      refine rx_iald C (i := 49) (n := 2) (pc := 146) d_Home_takeRequest_146 (rx_lt (by decide)) rfl (by first | assumption | exact rx_in2 (by assumption) | exact rx_v02 | exact rx_v12 | exact vp_in_iff.mpr (by decide)) ?_
      refine q_Home_81 D b ca C (by first | assumption | (constructor <;> omega) | omega | decide) (pc := 147) d_Home_takeRequest_147 (c_Msg_replySeal l D b ca (by first | assumption | (constructor <;> omega) | omega | decide) ) ⟨Nat.le_of_ble_eq_true rfl, Nat.le_of_ble_eq_true rfl⟩ ⟨Nat.zero_le _, Nat.zero_le _⟩ (Nat.le_of_ble_eq_true rfl) ?_
      refine p_Home_85 D b ca C (by first | assumption | (constructor <;> omega) | omega | decide) (pc := 150) d_Home_takeRequest_150 ?_
      exact rx_vret C (pc := 153) d_Home_takeRequest_153 (by unfold sp_Home_takeRequest; first | (simp only [if_pos h1, if_neg h3]; done) | (simp only [if_pos h1, if_neg h3]; rfl))
    ·
      refine rx_aload_n C.1 (pc := 79) d_Home_takeRequest_79 rfl ?_
      refine g_Home_15 D b ca C (pc := 80) d_Home_takeRequest_80 ?_
      refine rx_iconst C.1 (v := 0) (pc := 83) d_Home_takeRequest_83 (by decide) ?_
      refine rx_iconst C.1 (v := 3) (pc := 84) d_Home_takeRequest_84 (by decide) ?_
      refine rx_iload_n C.1 (pc := 85) d_Home_takeRequest_85 rfl ?_
      refine rx_aload_n C.1 (pc := 86) d_Home_takeRequest_86 rfl ?_
      refine g_Home_49 D b ca C (by first | assumption | (constructor <;> omega) | omega | decide) (pc := 87) d_Home_takeRequest_87 ?_
      refine q_Home_71 D b ca C (pc := 90) d_Home_takeRequest_90 (c_Wire_sendInNetwork l D b ca ) (fun hI => rq_Wire_sendInNetwork hI) ⟨Nat.le_of_ble_eq_true rfl, Nat.le_of_ble_eq_true rfl⟩ ⟨Nat.zero_le _, Nat.zero_le _⟩ (Nat.le_of_ble_eq_true rfl) (fun hq8 => ?_)
      refine rx_goto C.1 (pc := 93) d_Home_takeRequest_93 (tgt := 113) rfl ?_
      refine rx_astore C.1 (pc := 113) d_Home_takeRequest_113 (by decide) ?_
      refine rx_aload C.1 (pc := 115) d_Home_takeRequest_115 rfl ?_
      refine rx_aload_n C.1 (pc := 117) d_Home_takeRequest_117 rfl ?_
      refine g_Home_69 D b ca C (by first | assumption | (constructor <;> omega) | omega | decide) (pc := 118) d_Home_takeRequest_118 ?_
      refine p_Home_69 D b ca C (by first | assumption | (constructor <;> omega) | omega | decide) (pc := 121) d_Home_takeRequest_121 ?_
      refine rx_aload C.1 (pc := 124) d_Home_takeRequest_124 rfl ?_
      refine rx_iload_n C.1 (pc := 126) d_Home_takeRequest_126 rfl ?_
      refine p_Home_78 D b ca C (by first | assumption | (constructor <;> omega) | omega | decide) (pc := 127) d_Home_takeRequest_127 ?_
      refine rx_aload C.1 (pc := 130) d_Home_takeRequest_130 rfl ?_
      refine rx_iload C.1 (pc := 132) d_Home_takeRequest_132 rfl ?_
      refine p_Home_60 D b ca C (by first | assumption | (constructor <;> omega) | omega | decide) (pc := 134) d_Home_takeRequest_134 ?_
      refine rx_aload C.1 (pc := 137) d_Home_takeRequest_137 rfl ?_
      refine rx_aload C.1 (pc := 139) d_Home_takeRequest_139 rfl ?_
      refine rx_aload_n C.1 (pc := 141) d_Home_takeRequest_141 rfl ?_
      refine g_Home_19 D b ca C (pc := 142) d_Home_takeRequest_142 ?_
      refine rx_iload_n C.1 (pc := 145) d_Home_takeRequest_145 rfl ?_
      refine rx_iald C (i := 49) (n := 2) (pc := 146) d_Home_takeRequest_146 (rx_lt (by decide)) rfl (by first | assumption | exact rx_in2 (by assumption) | exact rx_v02 | exact rx_v12 | exact vp_in_iff.mpr (by decide)) ?_
      refine q_Home_81 D b ca C (by first | assumption | (constructor <;> omega) | omega | decide) (pc := 147) d_Home_takeRequest_147 (c_Msg_replySeal l D b ca (by first | assumption | (constructor <;> omega) | omega | decide) ) ⟨Nat.le_of_ble_eq_true rfl, Nat.le_of_ble_eq_true rfl⟩ ⟨Nat.zero_le _, Nat.zero_le _⟩ (Nat.le_of_ble_eq_true rfl) ?_
      refine p_Home_85 D b ca C (by first | assumption | (constructor <;> omega) | omega | decide) (pc := 150) d_Home_takeRequest_150 ?_
      exact rx_vret C (pc := 153) d_Home_takeRequest_153 (by unfold sp_Home_takeRequest; first | (simp only [if_pos h1, if_pos h3]; done) | (simp only [if_pos h1, if_pos h3]; rfl))

def sp_Home_takeData (σ : rMem) (m : Int32) (nu : Int32) : rMem := if (rv_Home_isBound σ m) = 0 then (let m1 := (sp_Wire_sendInNetwork σ 0 4 m nu).1; m1) else (let m2 := (sp_Wire_sendTo σ (σ 51 m.toNatClampNeg) 5 m nu).1; m2)
set_option maxHeartbeats 4000000 in
set_option maxRecDepth 100000 in
theorem c_Home_takeData (l : Launch) (D : va_G) (b : Nat) (ca : Nat → ClassId) {σ : rMem} {m : Int32} {nu : Int32} (hm : rx_iM m) : rx_C l (rx_fin D b ca) y_Home_takeData b_Home_takeData 3 none (rx_rm 4) [.ref (rg_A (rx_fin D b ca) 48), .int m, .int nu] σ none (sp_Home_takeData σ m nu) := by
  refine rx_of (lo := [(0, .ref (rg_A (rx_fin D b ca) 48)), (1, .int m), (2, .int nu)]) (by decide) (rx_fin_D D b ca) rfl (Nat.le_of_ble_eq_true rfl) rfl ?_
  intro p e s mm below meth c C
  refine rx_aload_n C.1 (pc := 0) d_Home_takeData_0 rfl ?_
  refine rx_iload_n C.1 (pc := 1) d_Home_takeData_1 rfl ?_
  refine q_Home_91 D b ca C (pc := 2) d_Home_takeData_2 (c_Home_isBound l D b ca (by first | assumption | exact rx_iM0 | exact rx_iM1 | (constructor <;> omega))) ⟨Nat.le_of_ble_eq_true rfl, Nat.le_of_ble_eq_true rfl⟩ ⟨Nat.zero_le _, Nat.zero_le _⟩ (Nat.le_of_ble_eq_true rfl) ?_
  refine rx_if_eq C.1 (pc := 5) d_Home_takeData_5 (tgt := 28) rfl (fun h1 => ?_) (fun h1 => ?_)
  ·
    refine rx_aload_n C.1 (pc := 28) d_Home_takeData_28 rfl ?_
    refine g_Home_15 D b ca C (pc := 29) d_Home_takeData_29 ?_
    refine rx_iconst C.1 (v := 0) (pc := 32) d_Home_takeData_32 (by decide) ?_
    refine rx_iconst C.1 (v := 4) (pc := 33) d_Home_takeData_33 (by decide) ?_
    refine rx_iload_n C.1 (pc := 34) d_Home_takeData_34 rfl ?_
    refine rx_iload_n C.1 (pc := 35) d_Home_takeData_35 rfl ?_
    refine q_Home_71 D b ca C (pc := 36) d_Home_takeData_36 (c_Wire_sendInNetwork l D b ca ) (fun hI => rq_Wire_sendInNetwork hI) ⟨Nat.le_of_ble_eq_true rfl, Nat.le_of_ble_eq_true rfl⟩ ⟨Nat.zero_le _, Nat.zero_le _⟩ (Nat.le_of_ble_eq_true rfl) (fun hq2 => ?_)
    refine rx_pop C.1 (pc := 39) d_Home_takeData_39 rfl ?_
    exact rx_vret C (pc := 40) d_Home_takeData_40 (by unfold sp_Home_takeData; first | (simp only [if_pos h1]; done) | (simp only [if_pos h1]; rfl))
  ·
    refine rx_aload_n C.1 (pc := 8) d_Home_takeData_8 rfl ?_
    refine g_Home_15 D b ca C (pc := 9) d_Home_takeData_9 ?_
    refine rx_aload_n C.1 (pc := 12) d_Home_takeData_12 rfl ?_
    refine g_Home_26 D b ca C (pc := 13) d_Home_takeData_13 ?_
    refine rx_iload_n C.1 (pc := 16) d_Home_takeData_16 rfl ?_
    refine rx_iald C (i := 51) (n := 2) (pc := 17) d_Home_takeData_17 (rx_lt (by decide)) rfl (by first | assumption | exact rx_in2 (by assumption) | exact rx_v02 | exact rx_v12 | exact vp_in_iff.mpr (by decide)) ?_
    refine rx_iconst C.1 (v := 5) (pc := 18) d_Home_takeData_18 (by decide) ?_
    refine rx_iload_n C.1 (pc := 19) d_Home_takeData_19 rfl ?_
    refine rx_iload_n C.1 (pc := 20) d_Home_takeData_20 rfl ?_
    refine q_Home_75 D b ca C (pc := 21) d_Home_takeData_21 (c_Wire_sendTo l D b ca ) (fun hI => rq_Wire_sendTo hI) ⟨Nat.le_of_ble_eq_true rfl, Nat.le_of_ble_eq_true rfl⟩ ⟨Nat.zero_le _, Nat.zero_le _⟩ (Nat.le_of_ble_eq_true rfl) (fun hq3 => ?_)
    refine rx_pop C.1 (pc := 24) d_Home_takeData_24 rfl ?_
    refine rx_goto C.1 (pc := 25) d_Home_takeData_25 (tgt := 40) rfl ?_
    exact rx_vret C (pc := 40) d_Home_takeData_40 (by unfold sp_Home_takeData; first | (simp only [if_neg h1]; done) | (simp only [if_neg h1]; rfl))

def sp_Home_receive (σ : rMem) (r : Nat) : rMem := if (σ r 0) = 2 then (let m2 := sp_Home_takeRequest σ r; m2) else (if (σ r 0) = 4 then (let m1 := sp_Home_takeData σ (σ r 3) (σ r 4); m1) else σ)
set_option maxHeartbeats 4000000 in
set_option maxRecDepth 100000 in
theorem c_Home_receive (l : Launch) (D : va_G) (b : Nat) (ca : Nat → ClassId) {σ : rMem} {r : Nat} (hr : 3 ≤ r ∧ r < 45) (hm : rx_iM (σ r 3)) : rx_C l (rx_fin D b ca) y_Home_receive b_Home_receive 2 none (rx_rm 5) [.ref (rg_A (rx_fin D b ca) 48), .ref (rg_A (rx_fin D b ca) r)] σ none (sp_Home_receive σ r) := by
  refine rx_of (lo := [(0, .ref (rg_A (rx_fin D b ca) 48)), (1, .ref (rg_A (rx_fin D b ca) r))]) (by decide) (rx_fin_D D b ca) rfl (Nat.le_of_ble_eq_true rfl) rfl ?_
  intro p e s mm below meth c C
  refine rx_aload_n C.1 (pc := 0) d_Home_receive_0 rfl ?_
  refine g_Home_37 D b ca C (by first | assumption | (constructor <;> omega) | omega | decide) (pc := 1) d_Home_receive_1 ?_
  refine rx_iconst C.1 (v := 2) (pc := 4) d_Home_receive_4 (by decide) ?_
  refine rx_icmp_ne C.1 (pc := 5) d_Home_receive_5 (tgt := 16) rfl (fun h1 => ?_) (fun h1 => ?_)
  ·
    refine rx_aload_n C.1 (pc := 16) d_Home_receive_16 rfl ?_
    refine g_Home_37 D b ca C (by first | assumption | (constructor <;> omega) | omega | decide) (pc := 17) d_Home_receive_17 ?_
    refine rx_iconst C.1 (v := 4) (pc := 20) d_Home_receive_20 (by decide) ?_
    refine rx_icmp_ne C.1 (pc := 21) d_Home_receive_21 (tgt := 36) rfl (fun h2 => ?_) (fun h2 => ?_)
    ·
      exact rx_vret C (pc := 36) d_Home_receive_36 (by unfold sp_Home_receive; first | (simp only [if_neg h1, if_neg h2]; done) | (simp only [if_neg h1, if_neg h2]; rfl))
    ·
      refine rx_aload_n C.1 (pc := 24) d_Home_receive_24 rfl ?_
      refine rx_aload_n C.1 (pc := 25) d_Home_receive_25 rfl ?_
      refine g_Home_46 D b ca C (by first | assumption | (constructor <;> omega) | omega | decide) (pc := 26) d_Home_receive_26 ?_
      refine rx_aload_n C.1 (pc := 29) d_Home_receive_29 rfl ?_
      refine g_Home_49 D b ca C (by first | assumption | (constructor <;> omega) | omega | decide) (pc := 30) d_Home_receive_30 ?_
      refine q_Home_52 D b ca C (pc := 33) d_Home_receive_33 (c_Home_takeData l D b ca (by first | assumption | exact rx_iM0 | exact rx_iM1 | (constructor <;> omega))) ⟨Nat.le_of_ble_eq_true rfl, Nat.le_of_ble_eq_true rfl⟩ ⟨Nat.zero_le _, Nat.zero_le _⟩ (Nat.le_of_ble_eq_true rfl) ?_
      exact rx_vret C (pc := 36) d_Home_receive_36 (by unfold sp_Home_receive; first | (simp only [if_neg h1, if_pos h2]; done) | (simp only [if_neg h1, if_pos h2]; rfl))
  ·
    refine rx_aload_n C.1 (pc := 8) d_Home_receive_8 rfl ?_
    refine rx_aload_n C.1 (pc := 9) d_Home_receive_9 rfl ?_
    refine q_Home_42 D b ca C (pc := 10) d_Home_receive_10 (c_Home_takeRequest l D b ca (by first | assumption | exact rx_iM0 | exact rx_iM1 | (constructor <;> omega)) (by first | assumption | exact rx_iM0 | exact rx_iM1 | (constructor <;> omega))) ⟨Nat.le_of_ble_eq_true rfl, Nat.le_of_ble_eq_true rfl⟩ ⟨Nat.zero_le _, Nat.zero_le _⟩ (Nat.le_of_ble_eq_true rfl) ?_
    refine rx_goto C.1 (pc := 13) d_Home_receive_13 (tgt := 36) rfl ?_
    exact rx_vret C (pc := 36) d_Home_receive_36 (by unfold sp_Home_receive; first | (simp only [if_pos h1]; done) | (simp only [if_pos h1]; rfl))

def rv_Fa_isVisited (σ : rMem) (a : Nat) (m : Int32) : Int32 := if (σ ((54 + 4 * a) + 1) m.toNatClampNeg) ≤ (σ 1 2) then 0 else 1
set_option maxHeartbeats 4000000 in
set_option maxRecDepth 100000 in
theorem c_Fa_isVisited (l : Launch) (D : va_G) (b : Nat) (ca : Nat → ClassId) {σ : rMem} {a : Nat} (ha : a < 3) {m : Int32} (hm : rx_iM m) : rx_C l (rx_fin D b ca) y_Fa_isVisited b_Fa_isVisited 2 (some .boolean) (rx_rm 0) [.ref (rg_A (rx_fin D b ca) (54 + 4 * a)), .int m] σ (some (.int (rv_Fa_isVisited σ a m))) σ := by
  refine rx_of (lo := [(0, .ref (rg_A (rx_fin D b ca) (54 + 4 * a))), (1, .int m)]) (by decide) (rx_fin_D D b ca) rfl (Nat.le_of_ble_eq_true rfl) rfl ?_
  intro p e s mm below meth c C
  refine rx_aload_n C.1 (pc := 0) d_Fa_isVisited_0 rfl ?_
  refine g_Fa_18 D b ca C (by first | assumption | (constructor <;> omega) | omega | decide) (pc := 1) d_Fa_isVisited_1 ?_
  refine g_Fa_32 D b ca C (pc := 4) d_Fa_isVisited_4 ?_
  refine rx_aload_n C.1 (pc := 7) d_Fa_isVisited_7 rfl ?_
  refine g_Fa_22 D b ca C (by first | assumption | (constructor <;> omega) | omega | decide) (pc := 8) d_Fa_isVisited_8 ?_
  refine rx_iload_n C.1 (pc := 11) d_Fa_isVisited_11 rfl ?_
  refine rx_iald C (i := ((54 + 4 * a) + 1)) (n := 2) (pc := 12) d_Fa_isVisited_12 (rx_lt (by omega)) (rx_E_fr (a := a) (t := 1) (by assumption) (by omega) _) (by first | assumption | exact rx_in2 (by assumption) | exact rx_v02 | exact rx_v12 | exact vp_in_iff.mpr (by decide)) ?_
  refine rx_icmp_ge C.1 (pc := 13) d_Fa_isVisited_13 (tgt := 20) rfl (fun h1 => ?_) (fun h1 => ?_)
  ·
    refine rx_iconst C.1 (v := 0) (pc := 20) d_Fa_isVisited_20 (by decide) ?_
    exact rx_zret C (pc := 21) d_Fa_isVisited_21 (Or.inl rfl) (by unfold rv_Fa_isVisited; first | (simp only [if_pos h1]; done) | (simp only [if_pos h1]; rfl)) rfl
  ·
    refine rx_iconst C.1 (v := 1) (pc := 16) d_Fa_isVisited_16 (by decide) ?_
    refine rx_goto C.1 (pc := 17) d_Fa_isVisited_17 (tgt := 21) rfl ?_
    exact rx_zret C (pc := 21) d_Fa_isVisited_21 (Or.inr rfl) (by unfold rv_Fa_isVisited; first | (simp only [if_neg h1]; done) | (simp only [if_neg h1]; rfl)) rfl

def rv_Fa_hasEntry (σ : rMem) (a : Nat) (m : Int32) : Int32 := if (σ ((54 + 4 * a) + 3) m.toNatClampNeg) ≤ (σ 1 2) then 0 else 1
set_option maxHeartbeats 4000000 in
set_option maxRecDepth 100000 in
theorem c_Fa_hasEntry (l : Launch) (D : va_G) (b : Nat) (ca : Nat → ClassId) {σ : rMem} {a : Nat} (ha : a < 3) {m : Int32} (hm : rx_iM m) : rx_C l (rx_fin D b ca) y_Fa_hasEntry b_Fa_hasEntry 2 (some .boolean) (rx_rm 0) [.ref (rg_A (rx_fin D b ca) (54 + 4 * a)), .int m] σ (some (.int (rv_Fa_hasEntry σ a m))) σ := by
  refine rx_of (lo := [(0, .ref (rg_A (rx_fin D b ca) (54 + 4 * a))), (1, .int m)]) (by decide) (rx_fin_D D b ca) rfl (Nat.le_of_ble_eq_true rfl) rfl ?_
  intro p e s mm below meth c C
  refine rx_aload_n C.1 (pc := 0) d_Fa_hasEntry_0 rfl ?_
  refine g_Fa_18 D b ca C (by first | assumption | (constructor <;> omega) | omega | decide) (pc := 1) d_Fa_hasEntry_1 ?_
  refine g_Fa_32 D b ca C (pc := 4) d_Fa_hasEntry_4 ?_
  refine rx_aload_n C.1 (pc := 7) d_Fa_hasEntry_7 rfl ?_
  refine g_Fa_29 D b ca C (by first | assumption | (constructor <;> omega) | omega | decide) (pc := 8) d_Fa_hasEntry_8 ?_
  refine rx_iload_n C.1 (pc := 11) d_Fa_hasEntry_11 rfl ?_
  refine rx_iald C (i := ((54 + 4 * a) + 3)) (n := 2) (pc := 12) d_Fa_hasEntry_12 (rx_lt (by omega)) (rx_E_fr (a := a) (t := 3) (by assumption) (by omega) _) (by first | assumption | exact rx_in2 (by assumption) | exact rx_v02 | exact rx_v12 | exact vp_in_iff.mpr (by decide)) ?_
  refine rx_icmp_ge C.1 (pc := 13) d_Fa_hasEntry_13 (tgt := 20) rfl (fun h1 => ?_) (fun h1 => ?_)
  ·
    refine rx_iconst C.1 (v := 0) (pc := 20) d_Fa_hasEntry_20 (by decide) ?_
    exact rx_zret C (pc := 21) d_Fa_hasEntry_21 (Or.inl rfl) (by unfold rv_Fa_hasEntry; first | (simp only [if_pos h1]; done) | (simp only [if_pos h1]; rfl)) rfl
  ·
    refine rx_iconst C.1 (v := 1) (pc := 16) d_Fa_hasEntry_16 (by decide) ?_
    refine rx_goto C.1 (pc := 17) d_Fa_hasEntry_17 (tgt := 21) rfl ?_
    exact rx_zret C (pc := 21) d_Fa_hasEntry_21 (Or.inr rfl) (by unfold rv_Fa_hasEntry; first | (simp only [if_neg h1]; done) | (simp only [if_neg h1]; rfl)) rfl

def rv_Fa_takesPlace (σ : rMem) (a : Nat) (m : Int32) : Int32 := if (rv_Fa_isVisited σ a m) = 0 then (if (rv_Fa_hasEntry σ a m) = 0 then 0 else 1) else 1
set_option maxHeartbeats 4000000 in
set_option maxRecDepth 100000 in
theorem c_Fa_takesPlace (l : Launch) (D : va_G) (b : Nat) (ca : Nat → ClassId) {σ : rMem} {a : Nat} (ha : a < 3) {m : Int32} (hm : rx_iM m) : rx_C l (rx_fin D b ca) y_Fa_takesPlace b_Fa_takesPlace 2 (some .boolean) (rx_rm 1) [.ref (rg_A (rx_fin D b ca) (54 + 4 * a)), .int m] σ (some (.int (rv_Fa_takesPlace σ a m))) σ := by
  refine rx_of (lo := [(0, .ref (rg_A (rx_fin D b ca) (54 + 4 * a))), (1, .int m)]) (by decide) (rx_fin_D D b ca) rfl (Nat.le_of_ble_eq_true rfl) rfl ?_
  intro p e s mm below meth c C
  refine rx_aload_n C.1 (pc := 0) d_Fa_takesPlace_0 rfl ?_
  refine rx_iload_n C.1 (pc := 1) d_Fa_takesPlace_1 rfl ?_
  refine q_Fa_37 D b ca C (by first | assumption | (constructor <;> omega) | omega | decide) (pc := 2) d_Fa_takesPlace_2 (c_Fa_isVisited l D b ca (by first | assumption | (constructor <;> omega) | omega | decide) (by first | assumption | exact rx_iM0 | exact rx_iM1 | (constructor <;> omega))) ⟨Nat.le_of_ble_eq_true rfl, Nat.le_of_ble_eq_true rfl⟩ ⟨Nat.zero_le _, Nat.zero_le _⟩ (Nat.le_of_ble_eq_true rfl) ?_
  refine rx_if_ne C.1 (pc := 5) d_Fa_takesPlace_5 (tgt := 16) rfl (fun h1 => ?_) (fun h1 => ?_)
  ·
    refine rx_iconst C.1 (v := 1) (pc := 16) d_Fa_takesPlace_16 (by decide) ?_
    refine rx_goto C.1 (pc := 17) d_Fa_takesPlace_17 (tgt := 21) rfl ?_
    exact rx_zret C (pc := 21) d_Fa_takesPlace_21 (Or.inr rfl) (by unfold rv_Fa_takesPlace; first | (simp only [if_neg h1]; done) | (simp only [if_neg h1]; rfl)) rfl
  ·
    refine rx_aload_n C.1 (pc := 8) d_Fa_takesPlace_8 rfl ?_
    refine rx_iload_n C.1 (pc := 9) d_Fa_takesPlace_9 rfl ?_
    refine q_Fa_41 D b ca C (by first | assumption | (constructor <;> omega) | omega | decide) (pc := 10) d_Fa_takesPlace_10 (c_Fa_hasEntry l D b ca (by first | assumption | (constructor <;> omega) | omega | decide) (by first | assumption | exact rx_iM0 | exact rx_iM1 | (constructor <;> omega))) ⟨Nat.le_of_ble_eq_true rfl, Nat.le_of_ble_eq_true rfl⟩ ⟨Nat.zero_le _, Nat.zero_le _⟩ (Nat.le_of_ble_eq_true rfl) ?_
    refine rx_if_eq C.1 (pc := 13) d_Fa_takesPlace_13 (tgt := 20) rfl (fun h2 => ?_) (fun h2 => ?_)
    ·
      refine rx_iconst C.1 (v := 0) (pc := 20) d_Fa_takesPlace_20 (by decide) ?_
      exact rx_zret C (pc := 21) d_Fa_takesPlace_21 (Or.inl rfl) (by unfold rv_Fa_takesPlace; first | (simp only [if_pos h1, if_pos h2]; done) | (simp only [if_pos h1, if_pos h2]; rfl)) rfl
    ·
      refine rx_iconst C.1 (v := 1) (pc := 16) d_Fa_takesPlace_16 (by decide) ?_
      refine rx_goto C.1 (pc := 17) d_Fa_takesPlace_17 (tgt := 21) rfl ?_
      exact rx_zret C (pc := 21) d_Fa_takesPlace_21 (Or.inr rfl) (by unfold rv_Fa_takesPlace; first | (simp only [if_pos h1, if_neg h2]; done) | (simp only [if_pos h1, if_neg h2]; rfl)) rfl

def rv_Fa_isCrowded (σ : rMem) (a : Nat) : Int32 := if (rv_Fa_takesPlace σ a 0) = 0 then (if (rv_Fa_takesPlace σ a 1) = 0 then (if 0 < (σ (54 + 4 * a) 1) then 0 else 1) else (if 1 < (σ (54 + 4 * a) 1) then 0 else 1)) else (if (rv_Fa_takesPlace σ a 1) = 0 then (if 1 < (σ (54 + 4 * a) 1) then 0 else 1) else (if 2 < (σ (54 + 4 * a) 1) then 0 else 1))
set_option maxHeartbeats 4000000 in
set_option maxRecDepth 100000 in
theorem c_Fa_isCrowded (l : Launch) (D : va_G) (b : Nat) (ca : Nat → ClassId) {σ : rMem} {a : Nat} (ha : a < 3) : rx_C l (rx_fin D b ca) y_Fa_isCrowded b_Fa_isCrowded 3 (some .boolean) (rx_rm 2) [.ref (rg_A (rx_fin D b ca) (54 + 4 * a))] σ (some (.int (rv_Fa_isCrowded σ a))) σ := by
  refine rx_of (lo := [(0, .ref (rg_A (rx_fin D b ca) (54 + 4 * a)))]) (by decide) (rx_fin_D D b ca) rfl (Nat.le_of_ble_eq_true rfl) rfl ?_
  intro p e s mm below meth c C
  refine rx_iconst C.1 (v := 0) (pc := 0) d_Fa_isCrowded_0 (by decide) ?_
  refine rx_istore_n C.1 (pc := 1) d_Fa_isCrowded_1 (by decide) ?_
  refine rx_iconst C.1 (v := 0) (pc := 2) d_Fa_isCrowded_2 (by decide) ?_
  refine rx_istore_n C.1 (pc := 3) d_Fa_isCrowded_3 (by decide) ?_
  refine rx_iload_n C.1 (pc := 4) d_Fa_isCrowded_4 rfl ?_
  refine rx_iconst C.1 (v := 2) (pc := 5) d_Fa_isCrowded_5 (by decide) ?_
  refine rx_icmp_ge C.1 (pc := 6) d_Fa_isCrowded_6 (tgt := 26) rfl (fun h9 => absurd h9 (by decide)) (fun _ => ?_)
  refine rx_aload_n C.1 (pc := 9) d_Fa_isCrowded_9 rfl ?_
  refine rx_iload_n C.1 (pc := 10) d_Fa_isCrowded_10 rfl ?_
  refine q_Fa_44 D b ca C (by first | assumption | (constructor <;> omega) | omega | decide) (pc := 11) d_Fa_isCrowded_11 (c_Fa_takesPlace l D b ca (by first | assumption | (constructor <;> omega) | omega | decide) (by first | assumption | exact rx_iM0 | exact rx_iM1 | (constructor <;> omega))) ⟨Nat.le_of_ble_eq_true rfl, Nat.le_of_ble_eq_true rfl⟩ ⟨Nat.zero_le _, Nat.zero_le _⟩ (Nat.le_of_ble_eq_true rfl) ?_
  refine rx_if_eq C.1 (pc := 14) d_Fa_isCrowded_14 (tgt := 20) rfl (fun h1 => ?_) (fun h1 => ?_)
  ·
    refine rx_iinc C.1 (v := 1) (pc := 20) d_Fa_isCrowded_20 rfl (by decide) (by decide) ?_
    refine rx_goto C.1 (pc := 23) d_Fa_isCrowded_23 (tgt := 4) rfl ?_
    refine rx_iload_n C.1 (pc := 4) d_Fa_isCrowded_4 rfl ?_
    refine rx_iconst C.1 (v := 2) (pc := 5) d_Fa_isCrowded_5 (by decide) ?_
    refine rx_icmp_ge C.1 (pc := 6) d_Fa_isCrowded_6 (tgt := 26) rfl (fun h9 => absurd h9 (by decide)) (fun _ => ?_)
    refine rx_aload_n C.1 (pc := 9) d_Fa_isCrowded_9 rfl ?_
    refine rx_iload_n C.1 (pc := 10) d_Fa_isCrowded_10 rfl ?_
    refine q_Fa_44 D b ca C (by first | assumption | (constructor <;> omega) | omega | decide) (pc := 11) d_Fa_isCrowded_11 (c_Fa_takesPlace l D b ca (by first | assumption | (constructor <;> omega) | omega | decide) (by first | assumption | exact rx_iM0 | exact rx_iM1 | (constructor <;> omega))) ⟨Nat.le_of_ble_eq_true rfl, Nat.le_of_ble_eq_true rfl⟩ ⟨Nat.zero_le _, Nat.zero_le _⟩ (Nat.le_of_ble_eq_true rfl) ?_
    refine rx_if_eq C.1 (pc := 14) d_Fa_isCrowded_14 (tgt := 20) rfl (fun h2 => ?_) (fun h2 => ?_)
    ·
      refine rx_iinc C.1 (v := 2) (pc := 20) d_Fa_isCrowded_20 rfl (by decide) (by decide) ?_
      refine rx_goto C.1 (pc := 23) d_Fa_isCrowded_23 (tgt := 4) rfl ?_
      refine rx_iload_n C.1 (pc := 4) d_Fa_isCrowded_4 rfl ?_
      refine rx_iconst C.1 (v := 2) (pc := 5) d_Fa_isCrowded_5 (by decide) ?_
      refine rx_icmp_ge C.1 (pc := 6) d_Fa_isCrowded_6 (tgt := 26) rfl (fun _ => ?_) (fun h9 => absurd (by decide) h9) 
      refine rx_iload_n C.1 (pc := 26) d_Fa_isCrowded_26 rfl ?_
      refine rx_aload_n C.1 (pc := 27) d_Fa_isCrowded_27 rfl ?_
      refine g_Fa_15 D b ca C (by first | assumption | (constructor <;> omega) | omega | decide) (pc := 28) d_Fa_isCrowded_28 ?_
      refine rx_icmp_lt C.1 (pc := 31) d_Fa_isCrowded_31 (tgt := 38) rfl (fun h3 => ?_) (fun h3 => ?_)
      ·
        refine rx_iconst C.1 (v := 0) (pc := 38) d_Fa_isCrowded_38 (by decide) ?_
        exact rx_zret C (pc := 39) d_Fa_isCrowded_39 (Or.inl rfl) (by unfold rv_Fa_isCrowded; first | (simp only [if_pos h1, if_pos h2, if_pos h3]; done) | (simp only [if_pos h1, if_pos h2, if_pos h3]; rfl)) rfl
      ·
        refine rx_iconst C.1 (v := 1) (pc := 34) d_Fa_isCrowded_34 (by decide) ?_
        refine rx_goto C.1 (pc := 35) d_Fa_isCrowded_35 (tgt := 39) rfl ?_
        exact rx_zret C (pc := 39) d_Fa_isCrowded_39 (Or.inr rfl) (by unfold rv_Fa_isCrowded; first | (simp only [if_pos h1, if_pos h2, if_neg h3]; done) | (simp only [if_pos h1, if_pos h2, if_neg h3]; rfl)) rfl
    ·
      refine rx_iinc C.1 (v := 1) (pc := 17) d_Fa_isCrowded_17 rfl (by decide) (by decide) ?_
      refine rx_iinc C.1 (v := 2) (pc := 20) d_Fa_isCrowded_20 rfl (by decide) (by decide) ?_
      refine rx_goto C.1 (pc := 23) d_Fa_isCrowded_23 (tgt := 4) rfl ?_
      refine rx_iload_n C.1 (pc := 4) d_Fa_isCrowded_4 rfl ?_
      refine rx_iconst C.1 (v := 2) (pc := 5) d_Fa_isCrowded_5 (by decide) ?_
      refine rx_icmp_ge C.1 (pc := 6) d_Fa_isCrowded_6 (tgt := 26) rfl (fun _ => ?_) (fun h9 => absurd (by decide) h9) 
      refine rx_iload_n C.1 (pc := 26) d_Fa_isCrowded_26 rfl ?_
      refine rx_aload_n C.1 (pc := 27) d_Fa_isCrowded_27 rfl ?_
      refine g_Fa_15 D b ca C (by first | assumption | (constructor <;> omega) | omega | decide) (pc := 28) d_Fa_isCrowded_28 ?_
      refine rx_icmp_lt C.1 (pc := 31) d_Fa_isCrowded_31 (tgt := 38) rfl (fun h4 => ?_) (fun h4 => ?_)
      ·
        refine rx_iconst C.1 (v := 0) (pc := 38) d_Fa_isCrowded_38 (by decide) ?_
        exact rx_zret C (pc := 39) d_Fa_isCrowded_39 (Or.inl rfl) (by unfold rv_Fa_isCrowded; first | (simp only [if_pos h1, if_neg h2, if_pos h4]; done) | (simp only [if_pos h1, if_neg h2, if_pos h4]; rfl)) rfl
      ·
        refine rx_iconst C.1 (v := 1) (pc := 34) d_Fa_isCrowded_34 (by decide) ?_
        refine rx_goto C.1 (pc := 35) d_Fa_isCrowded_35 (tgt := 39) rfl ?_
        exact rx_zret C (pc := 39) d_Fa_isCrowded_39 (Or.inr rfl) (by unfold rv_Fa_isCrowded; first | (simp only [if_pos h1, if_neg h2, if_neg h4]; done) | (simp only [if_pos h1, if_neg h2, if_neg h4]; rfl)) rfl
  ·
    refine rx_iinc C.1 (v := 1) (pc := 17) d_Fa_isCrowded_17 rfl (by decide) (by decide) ?_
    refine rx_iinc C.1 (v := 1) (pc := 20) d_Fa_isCrowded_20 rfl (by decide) (by decide) ?_
    refine rx_goto C.1 (pc := 23) d_Fa_isCrowded_23 (tgt := 4) rfl ?_
    refine rx_iload_n C.1 (pc := 4) d_Fa_isCrowded_4 rfl ?_
    refine rx_iconst C.1 (v := 2) (pc := 5) d_Fa_isCrowded_5 (by decide) ?_
    refine rx_icmp_ge C.1 (pc := 6) d_Fa_isCrowded_6 (tgt := 26) rfl (fun h9 => absurd h9 (by decide)) (fun _ => ?_)
    refine rx_aload_n C.1 (pc := 9) d_Fa_isCrowded_9 rfl ?_
    refine rx_iload_n C.1 (pc := 10) d_Fa_isCrowded_10 rfl ?_
    refine q_Fa_44 D b ca C (by first | assumption | (constructor <;> omega) | omega | decide) (pc := 11) d_Fa_isCrowded_11 (c_Fa_takesPlace l D b ca (by first | assumption | (constructor <;> omega) | omega | decide) (by first | assumption | exact rx_iM0 | exact rx_iM1 | (constructor <;> omega))) ⟨Nat.le_of_ble_eq_true rfl, Nat.le_of_ble_eq_true rfl⟩ ⟨Nat.zero_le _, Nat.zero_le _⟩ (Nat.le_of_ble_eq_true rfl) ?_
    refine rx_if_eq C.1 (pc := 14) d_Fa_isCrowded_14 (tgt := 20) rfl (fun h5 => ?_) (fun h5 => ?_)
    ·
      refine rx_iinc C.1 (v := 2) (pc := 20) d_Fa_isCrowded_20 rfl (by decide) (by decide) ?_
      refine rx_goto C.1 (pc := 23) d_Fa_isCrowded_23 (tgt := 4) rfl ?_
      refine rx_iload_n C.1 (pc := 4) d_Fa_isCrowded_4 rfl ?_
      refine rx_iconst C.1 (v := 2) (pc := 5) d_Fa_isCrowded_5 (by decide) ?_
      refine rx_icmp_ge C.1 (pc := 6) d_Fa_isCrowded_6 (tgt := 26) rfl (fun _ => ?_) (fun h9 => absurd (by decide) h9) 
      refine rx_iload_n C.1 (pc := 26) d_Fa_isCrowded_26 rfl ?_
      refine rx_aload_n C.1 (pc := 27) d_Fa_isCrowded_27 rfl ?_
      refine g_Fa_15 D b ca C (by first | assumption | (constructor <;> omega) | omega | decide) (pc := 28) d_Fa_isCrowded_28 ?_
      refine rx_icmp_lt C.1 (pc := 31) d_Fa_isCrowded_31 (tgt := 38) rfl (fun h6 => ?_) (fun h6 => ?_)
      ·
        refine rx_iconst C.1 (v := 0) (pc := 38) d_Fa_isCrowded_38 (by decide) ?_
        exact rx_zret C (pc := 39) d_Fa_isCrowded_39 (Or.inl rfl) (by unfold rv_Fa_isCrowded; first | (simp only [if_neg h1, if_pos h5, if_pos h6]; done) | (simp only [if_neg h1, if_pos h5, if_pos h6]; rfl)) rfl
      ·
        refine rx_iconst C.1 (v := 1) (pc := 34) d_Fa_isCrowded_34 (by decide) ?_
        refine rx_goto C.1 (pc := 35) d_Fa_isCrowded_35 (tgt := 39) rfl ?_
        exact rx_zret C (pc := 39) d_Fa_isCrowded_39 (Or.inr rfl) (by unfold rv_Fa_isCrowded; first | (simp only [if_neg h1, if_pos h5, if_neg h6]; done) | (simp only [if_neg h1, if_pos h5, if_neg h6]; rfl)) rfl
    ·
      refine rx_iinc C.1 (v := 2) (pc := 17) d_Fa_isCrowded_17 rfl (by decide) (by decide) ?_
      refine rx_iinc C.1 (v := 2) (pc := 20) d_Fa_isCrowded_20 rfl (by decide) (by decide) ?_
      refine rx_goto C.1 (pc := 23) d_Fa_isCrowded_23 (tgt := 4) rfl ?_
      refine rx_iload_n C.1 (pc := 4) d_Fa_isCrowded_4 rfl ?_
      refine rx_iconst C.1 (v := 2) (pc := 5) d_Fa_isCrowded_5 (by decide) ?_
      refine rx_icmp_ge C.1 (pc := 6) d_Fa_isCrowded_6 (tgt := 26) rfl (fun _ => ?_) (fun h9 => absurd (by decide) h9) 
      refine rx_iload_n C.1 (pc := 26) d_Fa_isCrowded_26 rfl ?_
      refine rx_aload_n C.1 (pc := 27) d_Fa_isCrowded_27 rfl ?_
      refine g_Fa_15 D b ca C (by first | assumption | (constructor <;> omega) | omega | decide) (pc := 28) d_Fa_isCrowded_28 ?_
      refine rx_icmp_lt C.1 (pc := 31) d_Fa_isCrowded_31 (tgt := 38) rfl (fun h7 => ?_) (fun h7 => ?_)
      ·
        refine rx_iconst C.1 (v := 0) (pc := 38) d_Fa_isCrowded_38 (by decide) ?_
        exact rx_zret C (pc := 39) d_Fa_isCrowded_39 (Or.inl rfl) (by unfold rv_Fa_isCrowded; first | (simp only [if_neg h1, if_neg h5, if_pos h7]; done) | (simp only [if_neg h1, if_neg h5, if_pos h7]; rfl)) rfl
      ·
        refine rx_iconst C.1 (v := 1) (pc := 34) d_Fa_isCrowded_34 (by decide) ?_
        refine rx_goto C.1 (pc := 35) d_Fa_isCrowded_35 (tgt := 39) rfl ?_
        exact rx_zret C (pc := 39) d_Fa_isCrowded_39 (Or.inr rfl) (by unfold rv_Fa_isCrowded; first | (simp only [if_neg h1, if_neg h5, if_neg h7]; done) | (simp only [if_neg h1, if_neg h5, if_neg h7]; rfl)) rfl

def sp_Fa_takeRequest (σ : rMem) (a : Nat) (r : Nat) : rMem := if (σ r 5) = (σ (54 + 4 * a) 0) then (if (rv_Fa_takesPlace σ a (σ r 3)) = 0 then (if (rv_Fa_isCrowded σ a) = 0 then (let m4 := rx_wr σ ((54 + 4 * a) + 2) (σ r 3).toNatClampNeg (σ r 4); let m5 := rx_wr m4 ((54 + 4 * a) + 3) (σ r 3).toNatClampNeg ((m4 1 2) + 8); let m6 := sp_Wire_sendOn m5 r 0 (-1); m6) else (let m7 := (sp_Wire_sendInNetwork σ (σ (54 + 4 * a) 0) 3 (σ r 3) (σ r 4)).1; let m8 := rx_wr m7 ((sp_Wire_sendInNetwork σ (σ (54 + 4 * a) 0) 3 (σ r 3) (σ r 4)).2) 5 (m7 (54 + 4 * a) 0); let m9 := rx_wr m8 ((sp_Wire_sendInNetwork σ (σ (54 + 4 * a) 0) 3 (σ r 3) (σ r 4)).2) 6 66; m9)) else (let m1 := rx_wr σ ((54 + 4 * a) + 2) (σ r 3).toNatClampNeg (σ r 4); let m2 := rx_wr m1 ((54 + 4 * a) + 3) (σ r 3).toNatClampNeg ((m1 1 2) + 8); let m3 := sp_Wire_sendOn m2 r 0 (-1); m3)) else σ
set_option maxHeartbeats 4000000 in
set_option maxRecDepth 100000 in
theorem c_Fa_takeRequest (l : Launch) (D : va_G) (b : Nat) (ca : Nat → ClassId) {σ : rMem} {a : Nat} (ha : a < 3) {r : Nat} (hr : 3 ≤ r ∧ r < 45) (hm : rx_iM (σ r 3)) : rx_C l (rx_fin D b ca) y_Fa_takeRequest b_Fa_takeRequest 4 none (rx_rm 4) [.ref (rg_A (rx_fin D b ca) (54 + 4 * a)), .ref (rg_A (rx_fin D b ca) r)] σ none (sp_Fa_takeRequest σ a r) := by
  refine rx_of (lo := [(0, .ref (rg_A (rx_fin D b ca) (54 + 4 * a))), (1, .ref (rg_A (rx_fin D b ca) r))]) (by decide) (rx_fin_D D b ca) rfl (Nat.le_of_ble_eq_true rfl) rfl ?_
  intro p e s mm below meth c C
  refine rx_aload_n C.1 (pc := 0) d_Fa_takeRequest_0 rfl ?_
  refine g_Fa_59 D b ca C (by first | assumption | (constructor <;> omega) | omega | decide) (pc := 1) d_Fa_takeRequest_1 ?_
  refine rx_istore_n C.1 (pc := 4) d_Fa_takeRequest_4 (by decide) ?_
  refine rx_aload_n C.1 (pc := 5) d_Fa_takeRequest_5 rfl ?_
  refine g_Fa_69 D b ca C (by first | assumption | (constructor <;> omega) | omega | decide) (pc := 6) d_Fa_takeRequest_6 ?_
  refine rx_aload_n C.1 (pc := 9) d_Fa_takeRequest_9 rfl ?_
  refine g_Fa_9 D b ca C (by first | assumption | (constructor <;> omega) | omega | decide) (pc := 10) d_Fa_takeRequest_10 ?_
  refine rx_icmp_eq C.1 (pc := 13) d_Fa_takeRequest_13 (tgt := 17) rfl (fun h1 => ?_) (fun h1 => ?_)
  ·
    refine rx_aload_n C.1 (pc := 17) d_Fa_takeRequest_17 rfl ?_
    refine rx_iload_n C.1 (pc := 18) d_Fa_takeRequest_18 rfl ?_
    refine q_Fa_44 D b ca C (by first | assumption | (constructor <;> omega) | omega | decide) (pc := 19) d_Fa_takeRequest_19 (c_Fa_takesPlace l D b ca (by first | assumption | (constructor <;> omega) | omega | decide) (by first | assumption | exact rx_iM0 | exact rx_iM1 | (constructor <;> omega))) ⟨Nat.le_of_ble_eq_true rfl, Nat.le_of_ble_eq_true rfl⟩ ⟨Nat.zero_le _, Nat.zero_le _⟩ (Nat.le_of_ble_eq_true rfl) ?_
    refine rx_if_ne C.1 (pc := 22) d_Fa_takeRequest_22 (tgt := 65) rfl (fun h2 => ?_) (fun h2 => ?_)
    ·
      refine rx_aload_n C.1 (pc := 65) d_Fa_takeRequest_65 rfl ?_
      refine g_Fa_26 D b ca C (by first | assumption | (constructor <;> omega) | omega | decide) (pc := 66) d_Fa_takeRequest_66 ?_
      refine rx_iload_n C.1 (pc := 69) d_Fa_takeRequest_69 rfl ?_
      refine rx_aload_n C.1 (pc := 70) d_Fa_takeRequest_70 rfl ?_
      refine g_Fa_62 D b ca C (by first | assumption | (constructor <;> omega) | omega | decide) (pc := 71) d_Fa_takeRequest_71 ?_
      refine rx_iast C (i := ((54 + 4 * a) + 2)) (n := 2) (pc := 74) d_Fa_takeRequest_74 (rx_lt (by omega)) (fun _ => (rx_E_fr (a := a) (t := 2) (by assumption) (by omega) _)) (by first | assumption | exact rx_in2 (by assumption) | exact rx_v02 | exact rx_v12 | exact vp_in_iff.mpr (by decide)) (rx_SI_wr (by omega)) ?_
      refine rx_aload_n C.1 (pc := 75) d_Fa_takeRequest_75 rfl ?_
      refine g_Fa_29 D b ca C (by first | assumption | (constructor <;> omega) | omega | decide) (pc := 76) d_Fa_takeRequest_76 ?_
      refine rx_iload_n C.1 (pc := 79) d_Fa_takeRequest_79 rfl ?_
      refine rx_aload_n C.1 (pc := 80) d_Fa_takeRequest_80 rfl ?_
      refine g_Fa_18 D b ca C (by first | assumption | (constructor <;> omega) | omega | decide) (pc := 81) d_Fa_takeRequest_81 ?_
      refine g_Fa_32 D b ca C (pc := 84) d_Fa_takeRequest_84 ?_
      refine rx_bipush C.1 (v := 8) (pc := 87) d_Fa_takeRequest_87 (by decide) ?_
      refine rx_iadd C.1 (pc := 89) d_Fa_takeRequest_89 ?_
      refine rx_iast C (i := ((54 + 4 * a) + 3)) (n := 2) (pc := 90) d_Fa_takeRequest_90 (rx_lt (by omega)) (fun _ => (rx_E_fr (a := a) (t := 3) (by assumption) (by omega) _)) (by first | assumption | exact rx_in2 (by assumption) | exact rx_v02 | exact rx_v12 | exact vp_in_iff.mpr (by decide)) (rx_SI_wr (by omega)) ?_
      refine rx_aload_n C.1 (pc := 91) d_Fa_takeRequest_91 rfl ?_
      refine g_Fa_18 D b ca C (by first | assumption | (constructor <;> omega) | omega | decide) (pc := 92) d_Fa_takeRequest_92 ?_
      refine rx_aload_n C.1 (pc := 95) d_Fa_takeRequest_95 rfl ?_
      refine rx_iconst C.1 (v := 0) (pc := 96) d_Fa_takeRequest_96 (by decide) ?_
      refine rx_iconst C.1 (v := (-1)) (pc := 97) d_Fa_takeRequest_97 (by decide) ?_
      refine q_Fa_83 D b ca C (pc := 98) d_Fa_takeRequest_98 (c_Wire_sendOn l D b ca (by first | assumption | exact rx_iM0 | exact rx_iM1 | (constructor <;> omega))) ⟨Nat.le_of_ble_eq_true rfl, Nat.le_of_ble_eq_true rfl⟩ ⟨Nat.zero_le _, Nat.zero_le _⟩ (Nat.le_of_ble_eq_true rfl) ?_
      exact rx_vret C (pc := 101) d_Fa_takeRequest_101 (by unfold sp_Fa_takeRequest; first | (simp only [if_pos h1, if_neg h2]; done) | (simp only [if_pos h1, if_neg h2]; rfl))
    ·
      refine rx_aload_n C.1 (pc := 25) d_Fa_takeRequest_25 rfl ?_
      refine q_Fa_72 D b ca C (by first | assumption | (constructor <;> omega) | omega | decide) (pc := 26) d_Fa_takeRequest_26 (c_Fa_isCrowded l D b ca (by first | assumption | (constructor <;> omega) | omega | decide) ) ⟨Nat.le_of_ble_eq_true rfl, Nat.le_of_ble_eq_true rfl⟩ ⟨Nat.zero_le _, Nat.zero_le _⟩ (Nat.le_of_ble_eq_true rfl) ?_
      refine rx_if_eq C.1 (pc := 29) d_Fa_takeRequest_29 (tgt := 65) rfl (fun h3 => ?_) (fun h3 => ?_)
      ·
        refine rx_aload_n C.1 (pc := 65) d_Fa_takeRequest_65 rfl ?_
        refine g_Fa_26 D b ca C (by first | assumption | (constructor <;> omega) | omega | decide) (pc := 66) d_Fa_takeRequest_66 ?_
        refine rx_iload_n C.1 (pc := 69) d_Fa_takeRequest_69 rfl ?_
        refine rx_aload_n C.1 (pc := 70) d_Fa_takeRequest_70 rfl ?_
        refine g_Fa_62 D b ca C (by first | assumption | (constructor <;> omega) | omega | decide) (pc := 71) d_Fa_takeRequest_71 ?_
        refine rx_iast C (i := ((54 + 4 * a) + 2)) (n := 2) (pc := 74) d_Fa_takeRequest_74 (rx_lt (by omega)) (fun _ => (rx_E_fr (a := a) (t := 2) (by assumption) (by omega) _)) (by first | assumption | exact rx_in2 (by assumption) | exact rx_v02 | exact rx_v12 | exact vp_in_iff.mpr (by decide)) (rx_SI_wr (by omega)) ?_
        refine rx_aload_n C.1 (pc := 75) d_Fa_takeRequest_75 rfl ?_
        refine g_Fa_29 D b ca C (by first | assumption | (constructor <;> omega) | omega | decide) (pc := 76) d_Fa_takeRequest_76 ?_
        refine rx_iload_n C.1 (pc := 79) d_Fa_takeRequest_79 rfl ?_
        refine rx_aload_n C.1 (pc := 80) d_Fa_takeRequest_80 rfl ?_
        refine g_Fa_18 D b ca C (by first | assumption | (constructor <;> omega) | omega | decide) (pc := 81) d_Fa_takeRequest_81 ?_
        refine g_Fa_32 D b ca C (pc := 84) d_Fa_takeRequest_84 ?_
        refine rx_bipush C.1 (v := 8) (pc := 87) d_Fa_takeRequest_87 (by decide) ?_
        refine rx_iadd C.1 (pc := 89) d_Fa_takeRequest_89 ?_
        refine rx_iast C (i := ((54 + 4 * a) + 3)) (n := 2) (pc := 90) d_Fa_takeRequest_90 (rx_lt (by omega)) (fun _ => (rx_E_fr (a := a) (t := 3) (by assumption) (by omega) _)) (by first | assumption | exact rx_in2 (by assumption) | exact rx_v02 | exact rx_v12 | exact vp_in_iff.mpr (by decide)) (rx_SI_wr (by omega)) ?_
        refine rx_aload_n C.1 (pc := 91) d_Fa_takeRequest_91 rfl ?_
        refine g_Fa_18 D b ca C (by first | assumption | (constructor <;> omega) | omega | decide) (pc := 92) d_Fa_takeRequest_92 ?_
        refine rx_aload_n C.1 (pc := 95) d_Fa_takeRequest_95 rfl ?_
        refine rx_iconst C.1 (v := 0) (pc := 96) d_Fa_takeRequest_96 (by decide) ?_
        refine rx_iconst C.1 (v := (-1)) (pc := 97) d_Fa_takeRequest_97 (by decide) ?_
        refine q_Fa_83 D b ca C (pc := 98) d_Fa_takeRequest_98 (c_Wire_sendOn l D b ca (by first | assumption | exact rx_iM0 | exact rx_iM1 | (constructor <;> omega))) ⟨Nat.le_of_ble_eq_true rfl, Nat.le_of_ble_eq_true rfl⟩ ⟨Nat.zero_le _, Nat.zero_le _⟩ (Nat.le_of_ble_eq_true rfl) ?_
        exact rx_vret C (pc := 101) d_Fa_takeRequest_101 (by unfold sp_Fa_takeRequest; first | (simp only [if_pos h1, if_pos h2, if_pos h3]; done) | (simp only [if_pos h1, if_pos h2, if_pos h3]; rfl))
      ·
        refine rx_aload_n C.1 (pc := 32) d_Fa_takeRequest_32 rfl ?_
        refine g_Fa_18 D b ca C (by first | assumption | (constructor <;> omega) | omega | decide) (pc := 33) d_Fa_takeRequest_33 ?_
        refine rx_aload_n C.1 (pc := 36) d_Fa_takeRequest_36 rfl ?_
        refine g_Fa_9 D b ca C (by first | assumption | (constructor <;> omega) | omega | decide) (pc := 37) d_Fa_takeRequest_37 ?_
        refine rx_iconst C.1 (v := 3) (pc := 40) d_Fa_takeRequest_40 (by decide) ?_
        refine rx_iload_n C.1 (pc := 41) d_Fa_takeRequest_41 rfl ?_
        refine rx_aload_n C.1 (pc := 42) d_Fa_takeRequest_42 rfl ?_
        refine g_Fa_62 D b ca C (by first | assumption | (constructor <;> omega) | omega | decide) (pc := 43) d_Fa_takeRequest_43 ?_
        refine q_Fa_76 D b ca C (pc := 46) d_Fa_takeRequest_46 (c_Wire_sendInNetwork l D b ca ) (fun hI => rq_Wire_sendInNetwork hI) ⟨Nat.le_of_ble_eq_true rfl, Nat.le_of_ble_eq_true rfl⟩ ⟨Nat.zero_le _, Nat.zero_le _⟩ (Nat.le_of_ble_eq_true rfl) (fun hq5 => ?_)
        refine rx_astore_n C.1 (pc := 49) d_Fa_takeRequest_49 (by decide) ?_
        refine rx_aload_n C.1 (pc := 50) d_Fa_takeRequest_50 rfl ?_
        refine rx_aload_n C.1 (pc := 51) d_Fa_takeRequest_51 rfl ?_
        refine g_Fa_9 D b ca C (by first | assumption | (constructor <;> omega) | omega | decide) (pc := 52) d_Fa_takeRequest_52 ?_
        refine p_Fa_69 D b ca C (by first | assumption | (constructor <;> omega) | omega | decide) (pc := 55) d_Fa_takeRequest_55 ?_
        refine rx_aload_n C.1 (pc := 58) d_Fa_takeRequest_58 rfl ?_
        refine rx_bipush C.1 (v := 66) (pc := 59) d_Fa_takeRequest_59 (by decide) ?_
        refine p_Fa_80 D b ca C (by first | assumption | (constructor <;> omega) | omega | decide) (pc := 61) d_Fa_takeRequest_61 ?_
        exact rx_vret C (pc := 64) d_Fa_takeRequest_64 (by unfold sp_Fa_takeRequest; first | (simp only [if_pos h1, if_pos h2, if_neg h3]; done) | (simp only [if_pos h1, if_pos h2, if_neg h3]; rfl))
  ·
    exact rx_vret C (pc := 16) d_Fa_takeRequest_16 (by unfold sp_Fa_takeRequest; first | (simp only [if_neg h1]; done) | (simp only [if_neg h1]; rfl))

def sp_Fa_takeReply (σ : rMem) (a : Nat) (r : Nat) : rMem := if (rv_Fa_hasEntry σ a (σ r 3)) = 0 then σ else (if (σ ((54 + 4 * a) + 2) (σ r 3).toNatClampNeg) = (σ r 4) then (let m1 := rx_wr σ ((54 + 4 * a) + 3) (σ r 3).toNatClampNeg 0; if (m1 r 6) = 0 then (let m3 := rx_wr m1 ((54 + 4 * a) + 1) (σ r 3).toNatClampNeg ((m1 1 2) + (m1 r 7)); let m4 := sp_Wire_sendOn m3 r 5 (m3 (54 + 4 * a) 0); m4) else (let m2 := sp_Wire_sendOn m1 r 5 (m1 (54 + 4 * a) 0); m2)) else σ)
set_option maxHeartbeats 4000000 in
set_option maxRecDepth 100000 in
theorem c_Fa_takeReply (l : Launch) (D : va_G) (b : Nat) (ca : Nat → ClassId) {σ : rMem} {a : Nat} (ha : a < 3) {r : Nat} (hr : 3 ≤ r ∧ r < 45) (hm : rx_iM (σ r 3)) : rx_C l (rx_fin D b ca) y_Fa_takeReply b_Fa_takeReply 3 none (rx_rm 3) [.ref (rg_A (rx_fin D b ca) (54 + 4 * a)), .ref (rg_A (rx_fin D b ca) r)] σ none (sp_Fa_takeReply σ a r) := by
  refine rx_of (lo := [(0, .ref (rg_A (rx_fin D b ca) (54 + 4 * a))), (1, .ref (rg_A (rx_fin D b ca) r))]) (by decide) (rx_fin_D D b ca) rfl (Nat.le_of_ble_eq_true rfl) rfl ?_
  intro p e s mm below meth c C
  refine rx_aload_n C.1 (pc := 0) d_Fa_takeReply_0 rfl ?_
  refine g_Fa_59 D b ca C (by first | assumption | (constructor <;> omega) | omega | decide) (pc := 1) d_Fa_takeReply_1 ?_
  refine rx_istore_n C.1 (pc := 4) d_Fa_takeReply_4 (by decide) ?_
  refine rx_aload_n C.1 (pc := 5) d_Fa_takeReply_5 rfl ?_
  refine rx_iload_n C.1 (pc := 6) d_Fa_takeReply_6 rfl ?_
  refine q_Fa_41 D b ca C (by first | assumption | (constructor <;> omega) | omega | decide) (pc := 7) d_Fa_takeReply_7 (c_Fa_hasEntry l D b ca (by first | assumption | (constructor <;> omega) | omega | decide) (by first | assumption | exact rx_iM0 | exact rx_iM1 | (constructor <;> omega))) ⟨Nat.le_of_ble_eq_true rfl, Nat.le_of_ble_eq_true rfl⟩ ⟨Nat.zero_le _, Nat.zero_le _⟩ (Nat.le_of_ble_eq_true rfl) ?_
  refine rx_if_eq C.1 (pc := 10) d_Fa_takeReply_10 (tgt := 26) rfl (fun h1 => ?_) (fun h1 => ?_)
  ·
    exact rx_vret C (pc := 26) d_Fa_takeReply_26 (by unfold sp_Fa_takeReply; first | (simp only [if_pos h1]; done) | (simp only [if_pos h1]; rfl))
  ·
    refine rx_aload_n C.1 (pc := 13) d_Fa_takeReply_13 rfl ?_
    refine g_Fa_26 D b ca C (by first | assumption | (constructor <;> omega) | omega | decide) (pc := 14) d_Fa_takeReply_14 ?_
    refine rx_iload_n C.1 (pc := 17) d_Fa_takeReply_17 rfl ?_
    refine rx_iald C (i := ((54 + 4 * a) + 2)) (n := 2) (pc := 18) d_Fa_takeReply_18 (rx_lt (by omega)) (rx_E_fr (a := a) (t := 2) (by assumption) (by omega) _) (by first | assumption | exact rx_in2 (by assumption) | exact rx_v02 | exact rx_v12 | exact vp_in_iff.mpr (by decide)) ?_
    refine rx_aload_n C.1 (pc := 19) d_Fa_takeReply_19 rfl ?_
    refine g_Fa_62 D b ca C (by first | assumption | (constructor <;> omega) | omega | decide) (pc := 20) d_Fa_takeReply_20 ?_
    refine rx_icmp_eq C.1 (pc := 23) d_Fa_takeReply_23 (tgt := 27) rfl (fun h2 => ?_) (fun h2 => ?_)
    ·
      refine rx_aload_n C.1 (pc := 27) d_Fa_takeReply_27 rfl ?_
      refine g_Fa_29 D b ca C (by first | assumption | (constructor <;> omega) | omega | decide) (pc := 28) d_Fa_takeReply_28 ?_
      refine rx_iload_n C.1 (pc := 31) d_Fa_takeReply_31 rfl ?_
      refine rx_iconst C.1 (v := 0) (pc := 32) d_Fa_takeReply_32 (by decide) ?_
      refine rx_iast C (i := ((54 + 4 * a) + 3)) (n := 2) (pc := 33) d_Fa_takeReply_33 (rx_lt (by omega)) (fun _ => (rx_E_fr (a := a) (t := 3) (by assumption) (by omega) _)) (by first | assumption | exact rx_in2 (by assumption) | exact rx_v02 | exact rx_v12 | exact vp_in_iff.mpr (by decide)) (rx_SI_wr (by omega)) ?_
      refine rx_aload_n C.1 (pc := 34) d_Fa_takeReply_34 rfl ?_
      refine g_Fa_80 D b ca C (by first | assumption | (constructor <;> omega) | omega | decide) (pc := 35) d_Fa_takeReply_35 ?_
      refine rx_if_ne C.1 (pc := 38) d_Fa_takeReply_38 (tgt := 59) rfl (fun h3 => ?_) (fun h3 => ?_)
      ·
        refine rx_aload_n C.1 (pc := 59) d_Fa_takeReply_59 rfl ?_
        refine g_Fa_18 D b ca C (by first | assumption | (constructor <;> omega) | omega | decide) (pc := 60) d_Fa_takeReply_60 ?_
        refine rx_aload_n C.1 (pc := 63) d_Fa_takeReply_63 rfl ?_
        refine rx_iconst C.1 (v := 5) (pc := 64) d_Fa_takeReply_64 (by decide) ?_
        refine rx_aload_n C.1 (pc := 65) d_Fa_takeReply_65 rfl ?_
        refine g_Fa_9 D b ca C (by first | assumption | (constructor <;> omega) | omega | decide) (pc := 66) d_Fa_takeReply_66 ?_
        refine q_Fa_83 D b ca C (pc := 69) d_Fa_takeReply_69 (c_Wire_sendOn l D b ca (by first | assumption | exact rx_iM0 | exact rx_iM1 | (constructor <;> omega))) ⟨Nat.le_of_ble_eq_true rfl, Nat.le_of_ble_eq_true rfl⟩ ⟨Nat.zero_le _, Nat.zero_le _⟩ (Nat.le_of_ble_eq_true rfl) ?_
        exact rx_vret C (pc := 72) d_Fa_takeReply_72 (by unfold sp_Fa_takeReply; first | (simp only [if_neg h1, if_pos h2, if_neg h3]; done) | (simp only [if_neg h1, if_pos h2, if_neg h3]; rfl))
      ·
        refine rx_aload_n C.1 (pc := 41) d_Fa_takeReply_41 rfl ?_
        refine g_Fa_22 D b ca C (by first | assumption | (constructor <;> omega) | omega | decide) (pc := 42) d_Fa_takeReply_42 ?_
        refine rx_iload_n C.1 (pc := 45) d_Fa_takeReply_45 rfl ?_
        refine rx_aload_n C.1 (pc := 46) d_Fa_takeReply_46 rfl ?_
        refine g_Fa_18 D b ca C (by first | assumption | (constructor <;> omega) | omega | decide) (pc := 47) d_Fa_takeReply_47 ?_
        refine g_Fa_32 D b ca C (pc := 50) d_Fa_takeReply_50 ?_
        refine rx_aload_n C.1 (pc := 53) d_Fa_takeReply_53 rfl ?_
        refine g_Fa_87 D b ca C (by first | assumption | (constructor <;> omega) | omega | decide) (pc := 54) d_Fa_takeReply_54 ?_
        refine rx_iadd C.1 (pc := 57) d_Fa_takeReply_57 ?_
        refine rx_iast C (i := ((54 + 4 * a) + 1)) (n := 2) (pc := 58) d_Fa_takeReply_58 (rx_lt (by omega)) (fun _ => (rx_E_fr (a := a) (t := 1) (by assumption) (by omega) _)) (by first | assumption | exact rx_in2 (by assumption) | exact rx_v02 | exact rx_v12 | exact vp_in_iff.mpr (by decide)) (rx_SI_wr (by omega)) ?_
        refine rx_aload_n C.1 (pc := 59) d_Fa_takeReply_59 rfl ?_
        refine g_Fa_18 D b ca C (by first | assumption | (constructor <;> omega) | omega | decide) (pc := 60) d_Fa_takeReply_60 ?_
        refine rx_aload_n C.1 (pc := 63) d_Fa_takeReply_63 rfl ?_
        refine rx_iconst C.1 (v := 5) (pc := 64) d_Fa_takeReply_64 (by decide) ?_
        refine rx_aload_n C.1 (pc := 65) d_Fa_takeReply_65 rfl ?_
        refine g_Fa_9 D b ca C (by first | assumption | (constructor <;> omega) | omega | decide) (pc := 66) d_Fa_takeReply_66 ?_
        refine q_Fa_83 D b ca C (pc := 69) d_Fa_takeReply_69 (c_Wire_sendOn l D b ca (by first | assumption | exact rx_iM0 | exact rx_iM1 | (constructor <;> omega))) ⟨Nat.le_of_ble_eq_true rfl, Nat.le_of_ble_eq_true rfl⟩ ⟨Nat.zero_le _, Nat.zero_le _⟩ (Nat.le_of_ble_eq_true rfl) ?_
        exact rx_vret C (pc := 72) d_Fa_takeReply_72 (by unfold sp_Fa_takeReply; first | (simp only [if_neg h1, if_pos h2, if_pos h3]; done) | (simp only [if_neg h1, if_pos h2, if_pos h3]; rfl))
    ·
      exact rx_vret C (pc := 26) d_Fa_takeReply_26 (by unfold sp_Fa_takeReply; first | (simp only [if_neg h1, if_neg h2]; done) | (simp only [if_neg h1, if_neg h2]; rfl))

def sp_Fa_takeTunnel (σ : rMem) (a : Nat) (m : Int32) (nu : Int32) : rMem := if (rv_Fa_isVisited σ a m) = 0 then σ else (let m1 := (sp_Wire_sendInNetwork σ (σ (54 + 4 * a) 0) 4 m nu).1; m1)
set_option maxHeartbeats 4000000 in
set_option maxRecDepth 100000 in
theorem c_Fa_takeTunnel (l : Launch) (D : va_G) (b : Nat) (ca : Nat → ClassId) {σ : rMem} {a : Nat} (ha : a < 3) {m : Int32} {nu : Int32} (hm : rx_iM m) : rx_C l (rx_fin D b ca) y_Fa_takeTunnel b_Fa_takeTunnel 3 none (rx_rm 4) [.ref (rg_A (rx_fin D b ca) (54 + 4 * a)), .int m, .int nu] σ none (sp_Fa_takeTunnel σ a m nu) := by
  refine rx_of (lo := [(0, .ref (rg_A (rx_fin D b ca) (54 + 4 * a))), (1, .int m), (2, .int nu)]) (by decide) (rx_fin_D D b ca) rfl (Nat.le_of_ble_eq_true rfl) rfl ?_
  intro p e s mm below meth c C
  refine rx_aload_n C.1 (pc := 0) d_Fa_takeTunnel_0 rfl ?_
  refine rx_iload_n C.1 (pc := 1) d_Fa_takeTunnel_1 rfl ?_
  refine q_Fa_37 D b ca C (by first | assumption | (constructor <;> omega) | omega | decide) (pc := 2) d_Fa_takeTunnel_2 (c_Fa_isVisited l D b ca (by first | assumption | (constructor <;> omega) | omega | decide) (by first | assumption | exact rx_iM0 | exact rx_iM1 | (constructor <;> omega))) ⟨Nat.le_of_ble_eq_true rfl, Nat.le_of_ble_eq_true rfl⟩ ⟨Nat.zero_le _, Nat.zero_le _⟩ (Nat.le_of_ble_eq_true rfl) ?_
  refine rx_if_eq C.1 (pc := 5) d_Fa_takeTunnel_5 (tgt := 23) rfl (fun h1 => ?_) (fun h1 => ?_)
  ·
    exact rx_vret C (pc := 23) d_Fa_takeTunnel_23 (by unfold sp_Fa_takeTunnel; first | (simp only [if_pos h1]; done) | (simp only [if_pos h1]; rfl))
  ·
    refine rx_aload_n C.1 (pc := 8) d_Fa_takeTunnel_8 rfl ?_
    refine g_Fa_18 D b ca C (by first | assumption | (constructor <;> omega) | omega | decide) (pc := 9) d_Fa_takeTunnel_9 ?_
    refine rx_aload_n C.1 (pc := 12) d_Fa_takeTunnel_12 rfl ?_
    refine g_Fa_9 D b ca C (by first | assumption | (constructor <;> omega) | omega | decide) (pc := 13) d_Fa_takeTunnel_13 ?_
    refine rx_iconst C.1 (v := 4) (pc := 16) d_Fa_takeTunnel_16 (by decide) ?_
    refine rx_iload_n C.1 (pc := 17) d_Fa_takeTunnel_17 rfl ?_
    refine rx_iload_n C.1 (pc := 18) d_Fa_takeTunnel_18 rfl ?_
    refine q_Fa_76 D b ca C (pc := 19) d_Fa_takeTunnel_19 (c_Wire_sendInNetwork l D b ca ) (fun hI => rq_Wire_sendInNetwork hI) ⟨Nat.le_of_ble_eq_true rfl, Nat.le_of_ble_eq_true rfl⟩ ⟨Nat.zero_le _, Nat.zero_le _⟩ (Nat.le_of_ble_eq_true rfl) (fun hq2 => ?_)
    refine rx_pop C.1 (pc := 22) d_Fa_takeTunnel_22 rfl ?_
    exact rx_vret C (pc := 23) d_Fa_takeTunnel_23 (by unfold sp_Fa_takeTunnel; first | (simp only [if_neg h1]; done) | (simp only [if_neg h1]; rfl))

def sp_Fa_receive (σ : rMem) (a : Nat) (r : Nat) : rMem := if (σ r 0) = 2 then (let m3 := sp_Fa_takeRequest σ a r; m3) else (if (σ r 0) = 3 then (let m2 := sp_Fa_takeReply σ a r; m2) else (if (σ r 0) = 5 then (let m1 := sp_Fa_takeTunnel σ a (σ r 3) (σ r 4); m1) else σ))
set_option maxHeartbeats 4000000 in
set_option maxRecDepth 100000 in
theorem c_Fa_receive (l : Launch) (D : va_G) (b : Nat) (ca : Nat → ClassId) {σ : rMem} {a : Nat} (ha : a < 3) {r : Nat} (hr : 3 ≤ r ∧ r < 45) (hm : rx_iM (σ r 3)) : rx_C l (rx_fin D b ca) y_Fa_receive b_Fa_receive 2 none (rx_rm 5) [.ref (rg_A (rx_fin D b ca) (54 + 4 * a)), .ref (rg_A (rx_fin D b ca) r)] σ none (sp_Fa_receive σ a r) := by
  refine rx_of (lo := [(0, .ref (rg_A (rx_fin D b ca) (54 + 4 * a))), (1, .ref (rg_A (rx_fin D b ca) r))]) (by decide) (rx_fin_D D b ca) rfl (Nat.le_of_ble_eq_true rfl) rfl ?_
  intro p e s mm below meth c C
  refine rx_aload_n C.1 (pc := 0) d_Fa_receive_0 rfl ?_
  refine g_Fa_47 D b ca C (by first | assumption | (constructor <;> omega) | omega | decide) (pc := 1) d_Fa_receive_1 ?_
  refine rx_iconst C.1 (v := 2) (pc := 4) d_Fa_receive_4 (by decide) ?_
  refine rx_icmp_ne C.1 (pc := 5) d_Fa_receive_5 (tgt := 16) rfl (fun h1 => ?_) (fun h1 => ?_)
  ·
    refine rx_aload_n C.1 (pc := 16) d_Fa_receive_16 rfl ?_
    refine g_Fa_47 D b ca C (by first | assumption | (constructor <;> omega) | omega | decide) (pc := 17) d_Fa_receive_17 ?_
    refine rx_iconst C.1 (v := 3) (pc := 20) d_Fa_receive_20 (by decide) ?_
    refine rx_icmp_ne C.1 (pc := 21) d_Fa_receive_21 (tgt := 32) rfl (fun h2 => ?_) (fun h2 => ?_)
    ·
      refine rx_aload_n C.1 (pc := 32) d_Fa_receive_32 rfl ?_
      refine g_Fa_47 D b ca C (by first | assumption | (constructor <;> omega) | omega | decide) (pc := 33) d_Fa_receive_33 ?_
      refine rx_iconst C.1 (v := 5) (pc := 36) d_Fa_receive_36 (by decide) ?_
      refine rx_icmp_ne C.1 (pc := 37) d_Fa_receive_37 (tgt := 52) rfl (fun h3 => ?_) (fun h3 => ?_)
      ·
        exact rx_vret C (pc := 52) d_Fa_receive_52 (by unfold sp_Fa_receive; first | (simp only [if_neg h1, if_neg h2, if_neg h3]; done) | (simp only [if_neg h1, if_neg h2, if_neg h3]; rfl))
      ·
        refine rx_aload_n C.1 (pc := 40) d_Fa_receive_40 rfl ?_
        refine rx_aload_n C.1 (pc := 41) d_Fa_receive_41 rfl ?_
        refine g_Fa_59 D b ca C (by first | assumption | (constructor <;> omega) | omega | decide) (pc := 42) d_Fa_receive_42 ?_
        refine rx_aload_n C.1 (pc := 45) d_Fa_receive_45 rfl ?_
        refine g_Fa_62 D b ca C (by first | assumption | (constructor <;> omega) | omega | decide) (pc := 46) d_Fa_receive_46 ?_
        refine q_Fa_65 D b ca C (by first | assumption | (constructor <;> omega) | omega | decide) (pc := 49) d_Fa_receive_49 (c_Fa_takeTunnel l D b ca (by first | assumption | (constructor <;> omega) | omega | decide) (by first | assumption | exact rx_iM0 | exact rx_iM1 | (constructor <;> omega))) ⟨Nat.le_of_ble_eq_true rfl, Nat.le_of_ble_eq_true rfl⟩ ⟨Nat.zero_le _, Nat.zero_le _⟩ (Nat.le_of_ble_eq_true rfl) ?_
        exact rx_vret C (pc := 52) d_Fa_receive_52 (by unfold sp_Fa_receive; first | (simp only [if_neg h1, if_neg h2, if_pos h3]; done) | (simp only [if_neg h1, if_neg h2, if_pos h3]; rfl))
    ·
      refine rx_aload_n C.1 (pc := 24) d_Fa_receive_24 rfl ?_
      refine rx_aload_n C.1 (pc := 25) d_Fa_receive_25 rfl ?_
      refine q_Fa_56 D b ca C (by first | assumption | (constructor <;> omega) | omega | decide) (pc := 26) d_Fa_receive_26 (c_Fa_takeReply l D b ca (by first | assumption | (constructor <;> omega) | omega | decide) (by first | assumption | exact rx_iM0 | exact rx_iM1 | (constructor <;> omega)) (by first | assumption | exact rx_iM0 | exact rx_iM1 | (constructor <;> omega))) ⟨Nat.le_of_ble_eq_true rfl, Nat.le_of_ble_eq_true rfl⟩ ⟨Nat.zero_le _, Nat.zero_le _⟩ (Nat.le_of_ble_eq_true rfl) ?_
      refine rx_goto C.1 (pc := 29) d_Fa_receive_29 (tgt := 52) rfl ?_
      exact rx_vret C (pc := 52) d_Fa_receive_52 (by unfold sp_Fa_receive; first | (simp only [if_neg h1, if_pos h2]; done) | (simp only [if_neg h1, if_pos h2]; rfl))
  ·
    refine rx_aload_n C.1 (pc := 8) d_Fa_receive_8 rfl ?_
    refine rx_aload_n C.1 (pc := 9) d_Fa_receive_9 rfl ?_
    refine q_Fa_52 D b ca C (by first | assumption | (constructor <;> omega) | omega | decide) (pc := 10) d_Fa_receive_10 (c_Fa_takeRequest l D b ca (by first | assumption | (constructor <;> omega) | omega | decide) (by first | assumption | exact rx_iM0 | exact rx_iM1 | (constructor <;> omega)) (by first | assumption | exact rx_iM0 | exact rx_iM1 | (constructor <;> omega))) ⟨Nat.le_of_ble_eq_true rfl, Nat.le_of_ble_eq_true rfl⟩ ⟨Nat.zero_le _, Nat.zero_le _⟩ (Nat.le_of_ble_eq_true rfl) ?_
    refine rx_goto C.1 (pc := 13) d_Fa_receive_13 (tgt := 52) rfl ?_
    exact rx_vret C (pc := 52) d_Fa_receive_52 (by unfold sp_Fa_receive; first | (simp only [if_pos h1]; done) | (simp only [if_pos h1]; rfl))

set_option maxHeartbeats 4000000 in
set_option maxRecDepth 100000 in
theorem it_Wire_remove (l : Launch) (D : va_G) (b : Nat) (ca : Nat → ClassId) {p : Program} {e : Env} {s : State} {mm : MethodId} {args : Array Value} {below : List Frame} {meth : Method} {c : Code} {H0 : Heap} {Q : State → Prop} {σ : rMem} {i k : Int32} {g : Nat} (C : rx_Cw p s mm args meth c R_Wire b_Wire_remove 4 none (rx_fin D b ca)) (hk1 : ¬ σ 1 1 ≤ k → vp_in (k - 1) 41) (hk2 : ¬ σ 1 1 ≤ k → vp_in k 41) (hk3 : ¬ σ 1 1 ≤ k → 1 ≤ (σ 2 k.toNatClampNeg).toInt ∧ (σ 2 k.toNatClampNeg).toInt ≤ 41)
    (kx : σ 1 1 ≤ k → rx_X p l e (rx_rm 0) s mm args below meth c (rg_O (rx_fin D b ca)) H0 0 0 Q 4 (rx_m (rx_fin D b ca) σ) 39 [(3, .int k), (2, .ref (rg_A (rx_fin D b ca) g)), (0, .ref (rg_A (rx_fin D b ca) 1)), (1, .int i)] []) (kb : ¬ σ 1 1 ≤ k → rx_X p l e (rx_rm 0) s mm args below meth c (rg_O (rx_fin D b ca)) H0 0 0 Q 4 (rx_m (rx_fin D b ca) (rx_wr σ 2 (k - 1).toNatClampNeg (σ 2 k.toNatClampNeg))) 11 [(3, .int (k + 1)), (2, .ref (rg_A (rx_fin D b ca) g)), (0, .ref (rg_A (rx_fin D b ca) 1)), (1, .int i)] []) : rx_X p l e (rx_rm 0) s mm args below meth c (rg_O (rx_fin D b ca)) H0 0 0 Q 4 (rx_m (rx_fin D b ca) σ) 11 [(3, .int k), (2, .ref (rg_A (rx_fin D b ca) g)), (0, .ref (rg_A (rx_fin D b ca) 1)), (1, .int i)] [] := by
  refine rx_iload_n C.1 (pc := 11) d_Wire_remove_11 rfl ?_
  refine rx_aload_n C.1 (pc := 12) d_Wire_remove_12 rfl ?_
  refine g_Wire_18 D b ca C (pc := 13) d_Wire_remove_13 ?_
  refine rx_icmp_ge C.1 (pc := 16) d_Wire_remove_16 (tgt := 39) rfl (fun h1 => ?_) (fun h1 => ?_)
  ·
    exact kx h1
  ·
    refine rx_aload_n C.1 (pc := 19) d_Wire_remove_19 rfl ?_
    refine g_Wire_11 D b ca C (pc := 20) d_Wire_remove_20 ?_
    refine rx_iload_n C.1 (pc := 23) d_Wire_remove_23 rfl ?_
    refine rx_iconst C.1 (v := 1) (pc := 24) d_Wire_remove_24 (by decide) ?_
    refine rx_isub C.1 (pc := 25) d_Wire_remove_25 ?_
    refine rx_aload_n C.1 (pc := 26) d_Wire_remove_26 rfl ?_
    refine g_Wire_11 D b ca C (pc := 27) d_Wire_remove_27 ?_
    refine rx_iload_n C.1 (pc := 30) d_Wire_remove_30 rfl ?_
    refine rx_ald_rows D b ca C (pc := 31) d_Wire_remove_31 (hk2 h1) ?_
    refine rx_ast_rows D b ca C (pc := 32) d_Wire_remove_32 (hk1 h1) (hk3 h1) ?_
    refine rx_iinc C.1 (v := k + 1) (pc := 33) d_Wire_remove_33 rfl rfl (by decide) ?_
    refine rx_goto C.1 (pc := 36) d_Wire_remove_36 (tgt := 11) rfl ?_
    refine rx_loc C.1 (rx_sub_all (lo' := [(3, .int (k + 1)), (2, .ref (rg_A (rx_fin D b ca) g)), (0, .ref (rg_A (rx_fin D b ca) 1)), (1, .int i)]) ⟨rfl, rfl, rfl, rfl, trivial⟩) ?_
    exact kb h1

theorem pm_ok {σ : rMem} {m : Int32} (hI : rx_SI σ) (hm : rx_iM m) (h : ¬ σ 67 m.toNatClampNeg ≤ σ 68 m.toNatClampNeg) : (σ 68 m.toNatClampNeg + 1).toInt ≤ 200 := by
  have h1 := hI.2.2.2 _ (rx_j2 hm)
  rw [rx_leI] at h
  have h2 := rx_lo (σ 68 m.toNatClampNeg)
  rw [rx_addI (by rw [rx_I1]; omega) (by rw [rx_I1]; omega), rx_I1]
  omega
def bd_Corr_pump (σ : rMem) (m : Int32) : rMem := let m1 := rx_wr σ 68 m.toNatClampNeg ((σ 68 m.toNatClampNeg) + 1); let m2 := (sp_Wire_sendTo m1 0 4 m (m1 68 m.toNatClampNeg)).1; rx_wr m2 70 m.toNatClampNeg (m2 1 2)
set_option maxHeartbeats 4000000 in
set_option maxRecDepth 100000 in
theorem it_Corr_pump (l : Launch) (D : va_G) (b : Nat) (ca : Nat → ClassId) {p : Program} {e : Env} {s : State} {mm : MethodId} {args : Array Value} {below : List Frame} {meth : Method} {c : Code} {H0 : Heap} {Q : State → Prop} {σ : rMem} {m : Int32} (C : rx_Cw p s mm args meth c R_Corr b_Corr_pump 2 none (rx_fin D b ca)) (hm : rx_iM m)
    (kx : (σ 67 m.toNatClampNeg ≤ σ 68 m.toNatClampNeg ∨ σ 69 m.toNatClampNeg + 3 ≤ σ 68 m.toNatClampNeg) → rx_X p l e (rx_rm 3) s mm args below meth c (rg_O (rx_fin D b ca)) H0 0 0 Q 2 (rx_m (rx_fin D b ca) σ) 75 [(0, .ref (rg_A (rx_fin D b ca) 66)), (1, .int m)] []) (kb : ¬ σ 67 m.toNatClampNeg ≤ σ 68 m.toNatClampNeg → ¬ σ 69 m.toNatClampNeg + 3 ≤ σ 68 m.toNatClampNeg → rx_X p l e (rx_rm 3) s mm args below meth c (rg_O (rx_fin D b ca)) H0 0 0 Q 2 (rx_m (rx_fin D b ca) (bd_Corr_pump σ m)) 0 [(0, .ref (rg_A (rx_fin D b ca) 66)), (1, .int m)] []) : rx_X p l e (rx_rm 3) s mm args below meth c (rg_O (rx_fin D b ca)) H0 0 0 Q 2 (rx_m (rx_fin D b ca) σ) 0 [(0, .ref (rg_A (rx_fin D b ca) 66)), (1, .int m)] [] := by
  refine rx_aload_n C.1 (pc := 0) d_Corr_pump_0 rfl ?_
  refine g_Corr_19 D b ca C (pc := 1) d_Corr_pump_1 ?_
  refine rx_iload_n C.1 (pc := 4) d_Corr_pump_4 rfl ?_
  refine rx_iald C (i := 68) (n := 2) (pc := 5) d_Corr_pump_5 (rx_lt (by decide)) rfl (by first | assumption | exact rx_in2 (by assumption) | exact rx_v02 | exact rx_v12 | exact vp_in_iff.mpr (by decide)) ?_
  refine rx_aload_n C.1 (pc := 6) d_Corr_pump_6 rfl ?_
  refine g_Corr_15 D b ca C (pc := 7) d_Corr_pump_7 ?_
  refine rx_iload_n C.1 (pc := 10) d_Corr_pump_10 rfl ?_
  refine rx_iald C (i := 67) (n := 2) (pc := 11) d_Corr_pump_11 (rx_lt (by decide)) rfl (by first | assumption | exact rx_in2 (by assumption) | exact rx_v02 | exact rx_v12 | exact vp_in_iff.mpr (by decide)) ?_
  refine rx_icmp_ge C.1 (pc := 12) d_Corr_pump_12 (tgt := 75) rfl (fun h1 => ?_) (fun h1 => ?_)
  ·
    first | exact kx (Or.inl h1) | exact kx (Or.inr h2)
  ·
    refine rx_aload_n C.1 (pc := 15) d_Corr_pump_15 rfl ?_
    refine g_Corr_19 D b ca C (pc := 16) d_Corr_pump_16 ?_
    refine rx_iload_n C.1 (pc := 19) d_Corr_pump_19 rfl ?_
    refine rx_iald C (i := 68) (n := 2) (pc := 20) d_Corr_pump_20 (rx_lt (by decide)) rfl (by first | assumption | exact rx_in2 (by assumption) | exact rx_v02 | exact rx_v12 | exact vp_in_iff.mpr (by decide)) ?_
    refine rx_aload_n C.1 (pc := 21) d_Corr_pump_21 rfl ?_
    refine g_Corr_22 D b ca C (pc := 22) d_Corr_pump_22 ?_
    refine rx_iload_n C.1 (pc := 25) d_Corr_pump_25 rfl ?_
    refine rx_iald C (i := 69) (n := 2) (pc := 26) d_Corr_pump_26 (rx_lt (by decide)) rfl (by first | assumption | exact rx_in2 (by assumption) | exact rx_v02 | exact rx_v12 | exact vp_in_iff.mpr (by decide)) ?_
    refine rx_iconst C.1 (v := 3) (pc := 27) d_Corr_pump_27 (by decide) ?_
    refine rx_iadd C.1 (pc := 28) d_Corr_pump_28 ?_
    refine rx_icmp_ge C.1 (pc := 29) d_Corr_pump_29 (tgt := 75) rfl (fun h2 => ?_) (fun h2 => ?_)
    ·
      first | exact kx (Or.inl h1) | exact kx (Or.inr h2)
    ·
      refine rx_aload_n C.1 (pc := 32) d_Corr_pump_32 rfl ?_
      refine g_Corr_19 D b ca C (pc := 33) d_Corr_pump_33 ?_
      refine rx_iload_n C.1 (pc := 36) d_Corr_pump_36 rfl ?_
      refine rx_dup2_11 C.1 (pc := 37) d_Corr_pump_37 rfl rfl ?_
      refine rx_iald C (i := 68) (n := 2) (pc := 38) d_Corr_pump_38 (rx_lt (by decide)) rfl (by first | assumption | exact rx_in2 (by assumption) | exact rx_v02 | exact rx_v12 | exact vp_in_iff.mpr (by decide)) ?_
      refine rx_iconst C.1 (v := 1) (pc := 39) d_Corr_pump_39 (by decide) ?_
      refine rx_iadd C.1 (pc := 40) d_Corr_pump_40 ?_
      refine rx_si (fun hI => ?_)
      have hz := pm_ok hI hm h1
      refine rx_iast C (i := 68) (n := 2) (pc := 41) d_Corr_pump_41 (rx_lt (by decide)) (fun _ => rfl) (by first | assumption | exact rx_in2 (by assumption) | exact rx_v02 | exact rx_v12 | exact vp_in_iff.mpr (by decide)) (rx_SI_cnt (by omega) hz) ?_
      refine rx_aload_n C.1 (pc := 42) d_Corr_pump_42 rfl ?_
      refine g_Corr_9 D b ca C (pc := 43) d_Corr_pump_43 ?_
      refine rx_iconst C.1 (v := 0) (pc := 46) d_Corr_pump_46 (by decide) ?_
      refine rx_iconst C.1 (v := 4) (pc := 47) d_Corr_pump_47 (by decide) ?_
      refine rx_iload_n C.1 (pc := 48) d_Corr_pump_48 rfl ?_
      refine rx_aload_n C.1 (pc := 49) d_Corr_pump_49 rfl ?_
      refine g_Corr_19 D b ca C (pc := 50) d_Corr_pump_50 ?_
      refine rx_iload_n C.1 (pc := 53) d_Corr_pump_53 rfl ?_
      refine rx_iald C (i := 68) (n := 2) (pc := 54) d_Corr_pump_54 (rx_lt (by decide)) rfl (by first | assumption | exact rx_in2 (by assumption) | exact rx_v02 | exact rx_v12 | exact vp_in_iff.mpr (by decide)) ?_
      refine q_Corr_28 D b ca C (pc := 55) d_Corr_pump_55 (c_Wire_sendTo l D b ca ) (fun hI => rq_Wire_sendTo hI) ⟨Nat.le_of_ble_eq_true rfl, Nat.le_of_ble_eq_true rfl⟩ ⟨Nat.zero_le _, Nat.zero_le _⟩ (Nat.le_of_ble_eq_true rfl) (fun hq1 => ?_)
      refine rx_pop C.1 (pc := 58) d_Corr_pump_58 rfl ?_
      refine rx_aload_n C.1 (pc := 59) d_Corr_pump_59 rfl ?_
      refine g_Corr_25 D b ca C (pc := 60) d_Corr_pump_60 ?_
      refine rx_iload_n C.1 (pc := 63) d_Corr_pump_63 rfl ?_
      refine rx_aload_n C.1 (pc := 64) d_Corr_pump_64 rfl ?_
      refine g_Corr_9 D b ca C (pc := 65) d_Corr_pump_65 ?_
      refine g_Corr_34 D b ca C (pc := 68) d_Corr_pump_68 ?_
      refine rx_iast C (i := 70) (n := 2) (pc := 71) d_Corr_pump_71 (rx_lt (by decide)) (fun _ => rfl) (by first | assumption | exact rx_in2 (by assumption) | exact rx_v02 | exact rx_v12 | exact vp_in_iff.mpr (by decide)) (rx_SI_wr (by omega)) ?_
      refine rx_goto C.1 (pc := 72) d_Corr_pump_72 (tgt := 0) rfl ?_
      exact kb h1 h2

set_option maxHeartbeats 4000000 in
set_option maxRecDepth 100000 in
theorem it_Corr_resend (l : Launch) (D : va_G) (b : Nat) (ca : Nat → ClassId) {p : Program} {e : Env} {s : State} {mm : MethodId} {args : Array Value} {below : List Frame} {meth : Method} {c : Code} {H0 : Heap} {Q : State → Prop} {σ : rMem} {m k : Int32} (C : rx_Cw p s mm args meth c R_Corr b_Corr_resendIfDue 3 none (rx_fin D b ca)) (hm : rx_iM m)
    (kx : σ 68 m.toNatClampNeg < k → rx_X p l e (rx_rm 3) s mm args below meth c (rg_O (rx_fin D b ca)) H0 0 0 Q 3 (rx_m (rx_fin D b ca) σ) 71 [(2, .int k), (0, .ref (rg_A (rx_fin D b ca) 66)), (1, .int m)] []) (kb : ¬ σ 68 m.toNatClampNeg < k → rx_X p l e (rx_rm 3) s mm args below meth c (rg_O (rx_fin D b ca)) H0 0 0 Q 3 (rx_m (rx_fin D b ca) (sp_Wire_sendTo σ 0 4 m k).1) 43 [(2, .int (k + 1)), (0, .ref (rg_A (rx_fin D b ca) 66)), (1, .int m)] []) : rx_X p l e (rx_rm 3) s mm args below meth c (rg_O (rx_fin D b ca)) H0 0 0 Q 3 (rx_m (rx_fin D b ca) σ) 43 [(2, .int k), (0, .ref (rg_A (rx_fin D b ca) 66)), (1, .int m)] [] := by
  refine rx_iload_n C.1 (pc := 43) d_Corr_resendIfDue_43 rfl ?_
  refine rx_aload_n C.1 (pc := 44) d_Corr_resendIfDue_44 rfl ?_
  refine g_Corr_19 D b ca C (pc := 45) d_Corr_resendIfDue_45 ?_
  refine rx_iload_n C.1 (pc := 48) d_Corr_resendIfDue_48 rfl ?_
  refine rx_iald C (i := 68) (n := 2) (pc := 49) d_Corr_resendIfDue_49 (rx_lt (by decide)) rfl (by first | assumption | exact rx_in2 (by assumption) | exact rx_v02 | exact rx_v12 | exact vp_in_iff.mpr (by decide)) ?_
  refine rx_icmp_gt C.1 (pc := 50) d_Corr_resendIfDue_50 (tgt := 71) rfl (fun h1 => ?_) (fun h1 => ?_)
  ·
    exact kx h1
  ·
    refine rx_aload_n C.1 (pc := 53) d_Corr_resendIfDue_53 rfl ?_
    refine g_Corr_9 D b ca C (pc := 54) d_Corr_resendIfDue_54 ?_
    refine rx_iconst C.1 (v := 0) (pc := 57) d_Corr_resendIfDue_57 (by decide) ?_
    refine rx_iconst C.1 (v := 4) (pc := 58) d_Corr_resendIfDue_58 (by decide) ?_
    refine rx_iload_n C.1 (pc := 59) d_Corr_resendIfDue_59 rfl ?_
    refine rx_iload_n C.1 (pc := 60) d_Corr_resendIfDue_60 rfl ?_
    refine q_Corr_28 D b ca C (pc := 61) d_Corr_resendIfDue_61 (c_Wire_sendTo l D b ca ) (fun hI => rq_Wire_sendTo hI) ⟨Nat.le_of_ble_eq_true rfl, Nat.le_of_ble_eq_true rfl⟩ ⟨Nat.zero_le _, Nat.zero_le _⟩ (Nat.le_of_ble_eq_true rfl) (fun hq1 => ?_)
    refine rx_pop C.1 (pc := 64) d_Corr_resendIfDue_64 rfl ?_
    refine rx_iinc C.1 (v := k + 1) (pc := 65) d_Corr_resendIfDue_65 rfl rfl (by decide) ?_
    refine rx_goto C.1 (pc := 68) d_Corr_resendIfDue_68 (tgt := 43) rfl ?_
    refine rx_loc C.1 (rx_sub_all (lo' := [(2, .int (k + 1)), (0, .ref (rg_A (rx_fin D b ca) 66)), (1, .int m)]) ⟨rfl, rfl, rfl, trivial⟩) ?_
    exact kb h1
