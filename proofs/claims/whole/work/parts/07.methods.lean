def rv_Net_isWithin (x : Int32) (lo : Int32) (hi : Int32) : Int32 := if x < lo then 0 else (if hi < x then 0 else 1)
set_option maxHeartbeats 4000000 in
set_option maxRecDepth 100000 in
theorem c_Net_isWithin (l : Launch) {x : Int32} {lo : Int32} {hi : Int32} : rx_S l y_Net_isWithin b_Net_isWithin 3 (some .boolean) (rx_rm 0) [.int x, .int lo, .int hi] (.int (rv_Net_isWithin x lo hi)) := by
  refine rx_ofS (lo := [(0, .int x), (1, .int lo), (2, .int hi)]) (by decide) rfl (Nat.le_of_ble_eq_true rfl) rfl ?_
  intro p e s m below meth c C0
  have C := And.intro C0 True.intro
  refine rx_iload_n C.1 (pc := 0) d_Net_isWithin_0 rfl ?_
  refine rx_iload_n C.1 (pc := 1) d_Net_isWithin_1 rfl ?_
  refine rx_icmp_lt C.1 (pc := 2) d_Net_isWithin_2 (tgt := 14) rfl (fun h1 => ?_) (fun h1 => ?_)
  ·
    refine rx_iconst C.1 (v := 0) (pc := 14) d_Net_isWithin_14 (by decide) ?_
    exact rx_zretS C.1 (pc := 15) d_Net_isWithin_15 (Or.inl rfl) (by unfold rv_Net_isWithin; first | (simp only [if_pos h1]; done) | (simp only [if_pos h1]; rfl)) 
  ·
    refine rx_iload_n C.1 (pc := 5) d_Net_isWithin_5 rfl ?_
    refine rx_iload_n C.1 (pc := 6) d_Net_isWithin_6 rfl ?_
    refine rx_icmp_gt C.1 (pc := 7) d_Net_isWithin_7 (tgt := 14) rfl (fun h2 => ?_) (fun h2 => ?_)
    ·
      refine rx_iconst C.1 (v := 0) (pc := 14) d_Net_isWithin_14 (by decide) ?_
      exact rx_zretS C.1 (pc := 15) d_Net_isWithin_15 (Or.inl rfl) (by unfold rv_Net_isWithin; first | (simp only [if_neg h1, if_pos h2]; done) | (simp only [if_neg h1, if_pos h2]; rfl)) 
    ·
      refine rx_iconst C.1 (v := 1) (pc := 10) d_Net_isWithin_10 (by decide) ?_
      refine rx_goto C.1 (pc := 11) d_Net_isWithin_11 (tgt := 15) rfl ?_
      exact rx_zretS C.1 (pc := 15) d_Net_isWithin_15 (Or.inr rfl) (by unfold rv_Net_isWithin; first | (simp only [if_neg h1, if_neg h2]; done) | (simp only [if_neg h1, if_neg h2]; rfl)) 

def rv_Msg_stir (h : Int32) (x : Int32) : Int32 := (((h ^^^ x) * 16777619) ^^^ (((h ^^^ x) * 16777619).toUInt32 >>> ((15 : Int32).toUInt32 &&& Int32.toUInt32 31)).toInt32)
set_option maxHeartbeats 4000000 in
set_option maxRecDepth 100000 in
theorem c_Msg_stir (l : Launch) {h : Int32} {x : Int32} : rx_S l y_Msg_stir b_Msg_stir 3 (some .int) (rx_rm 0) [.int h, .int x] (.int (rv_Msg_stir h x)) := by
  refine rx_ofS (lo := [(0, .int h), (1, .int x)]) (by decide) rfl (Nat.le_of_ble_eq_true rfl) rfl ?_
  intro p e s m below meth c C0
  have C := And.intro C0 True.intro
  refine rx_iload_n C.1 (pc := 0) d_Msg_stir_0 rfl ?_
  refine rx_iload_n C.1 (pc := 1) d_Msg_stir_1 rfl ?_
  refine rx_ixor C.1 (pc := 2) d_Msg_stir_2 ?_
  refine rx_ldc C.1 (v := 16777619) k_Msg_45 (pc := 3) d_Msg_stir_3 ?_
  refine rx_imul C.1 (pc := 5) d_Msg_stir_5 ?_
  refine rx_istore_n C.1 (pc := 6) d_Msg_stir_6 (by decide) ?_
  refine rx_iload_n C.1 (pc := 7) d_Msg_stir_7 rfl ?_
  refine rx_iload_n C.1 (pc := 8) d_Msg_stir_8 rfl ?_
  refine rx_bipush C.1 (v := 15) (pc := 9) d_Msg_stir_9 (by decide) ?_
  refine rx_iushr C.1 (pc := 11) d_Msg_stir_11 rfl ?_
  refine rx_ixor C.1 (pc := 12) d_Msg_stir_12 ?_
  exact rx_iretS C.1 (pc := 13) d_Msg_stir_13 (by first | rfl | (unfold rv_Msg_stir; rfl)) 

def sp_Msg_begin (σ : rMem) (q : Nat) (kd : Int32) (tg : Int32) (mo : Int32) (nu : Int32) : rMem := let m1 := rx_wr σ q 0 kd; let m2 := rx_wr m1 q 1 tg; let m3 := rx_wr m2 q 3 mo; let m4 := rx_wr m3 q 4 nu; let m5 := rx_wr m4 q 2 (-1); let m6 := rx_wr m5 q 5 0; let m7 := rx_wr m6 q 6 0; let m8 := rx_wr m7 q 7 0; let m9 := rx_wr m8 q 8 0; m9
set_option maxHeartbeats 4000000 in
set_option maxRecDepth 100000 in
theorem c_Msg_begin (l : Launch) (D : va_G) (b : Nat) (ca : Nat → ClassId) {σ : rMem} {q : Nat} (hq : 3 ≤ q ∧ q < 45) {kd : Int32} {tg : Int32} {mo : Int32} {nu : Int32} : rx_C l (rx_fin D b ca) y_Msg_begin b_Msg_begin 5 none (rx_rm 0) [.ref (rg_A (rx_fin D b ca) q), .int kd, .int tg, .int mo, .int nu] σ none (sp_Msg_begin σ q kd tg mo nu) := by
  refine rx_of (lo := [(0, .ref (rg_A (rx_fin D b ca) q)), (1, .int kd), (2, .int tg), (3, .int mo), (4, .int nu)]) (by decide) (rx_fin_D D b ca) rfl (Nat.le_of_ble_eq_true rfl) rfl ?_
  intro p e s m below meth c C
  refine rx_aload_n C.1 (pc := 0) d_Msg_begin_0 rfl ?_
  refine rx_iload_n C.1 (pc := 1) d_Msg_begin_1 rfl ?_
  refine p_Msg_9 D b ca C (by first | assumption | (constructor <;> omega) | omega) (pc := 2) d_Msg_begin_2 ?_
  refine rx_aload_n C.1 (pc := 5) d_Msg_begin_5 rfl ?_
  refine rx_iload_n C.1 (pc := 6) d_Msg_begin_6 rfl ?_
  refine p_Msg_15 D b ca C (by first | assumption | (constructor <;> omega) | omega) (pc := 7) d_Msg_begin_7 ?_
  refine rx_aload_n C.1 (pc := 10) d_Msg_begin_10 rfl ?_
  refine rx_iload_n C.1 (pc := 11) d_Msg_begin_11 rfl ?_
  refine p_Msg_18 D b ca C (by first | assumption | (constructor <;> omega) | omega) (pc := 12) d_Msg_begin_12 ?_
  refine rx_aload_n C.1 (pc := 15) d_Msg_begin_15 rfl ?_
  refine rx_iload C.1 (pc := 16) d_Msg_begin_16 rfl ?_
  refine p_Msg_21 D b ca C (by first | assumption | (constructor <;> omega) | omega) (pc := 18) d_Msg_begin_18 ?_
  refine rx_aload_n C.1 (pc := 21) d_Msg_begin_21 rfl ?_
  refine rx_iconst C.1 (v := (-1)) (pc := 22) d_Msg_begin_22 (by decide) ?_
  refine p_Msg_24 D b ca C (by first | assumption | (constructor <;> omega) | omega) (pc := 23) d_Msg_begin_23 ?_
  refine rx_aload_n C.1 (pc := 26) d_Msg_begin_26 rfl ?_
  refine rx_iconst C.1 (v := 0) (pc := 27) d_Msg_begin_27 (by decide) ?_
  refine p_Msg_27 D b ca C (by first | assumption | (constructor <;> omega) | omega) (pc := 28) d_Msg_begin_28 ?_
  refine rx_aload_n C.1 (pc := 31) d_Msg_begin_31 rfl ?_
  refine rx_iconst C.1 (v := 0) (pc := 32) d_Msg_begin_32 (by decide) ?_
  refine p_Msg_30 D b ca C (by first | assumption | (constructor <;> omega) | omega) (pc := 33) d_Msg_begin_33 ?_
  refine rx_aload_n C.1 (pc := 36) d_Msg_begin_36 rfl ?_
  refine rx_iconst C.1 (v := 0) (pc := 37) d_Msg_begin_37 (by decide) ?_
  refine p_Msg_33 D b ca C (by first | assumption | (constructor <;> omega) | omega) (pc := 38) d_Msg_begin_38 ?_
  refine rx_aload_n C.1 (pc := 41) d_Msg_begin_41 rfl ?_
  refine rx_iconst C.1 (v := 0) (pc := 42) d_Msg_begin_42 (by decide) ?_
  refine p_Msg_36 D b ca C (by first | assumption | (constructor <;> omega) | omega) (pc := 43) d_Msg_begin_43 ?_
  exact rx_vret C (pc := 46) d_Msg_begin_46 (by first | rfl | (unfold sp_Msg_begin; rfl))

def rv_Msg_summary (σ : rMem) (q : Nat) : Int32 := ((((1000000 * (σ q 0)) + (100000 * (σ q 1))) + (10000 * (σ q 3))) + (σ q 4))
set_option maxHeartbeats 4000000 in
set_option maxRecDepth 100000 in
theorem c_Msg_summary (l : Launch) (D : va_G) (b : Nat) (ca : Nat → ClassId) {σ : rMem} {q : Nat} (hq : 3 ≤ q ∧ q < 45) : rx_C l (rx_fin D b ca) y_Msg_summary b_Msg_summary 1 (some .int) (rx_rm 0) [.ref (rg_A (rx_fin D b ca) q)] σ (some (.int (rv_Msg_summary σ q))) σ := by
  refine rx_of (lo := [(0, .ref (rg_A (rx_fin D b ca) q))]) (by decide) (rx_fin_D D b ca) rfl (Nat.le_of_ble_eq_true rfl) rfl ?_
  intro p e s m below meth c C
  refine rx_ldc C.1 (v := 1000000) k_Msg_39 (pc := 0) d_Msg_summary_0 ?_
  refine rx_aload_n C.1 (pc := 2) d_Msg_summary_2 rfl ?_
  refine g_Msg_9 D b ca C (by first | assumption | (constructor <;> omega) | omega) (pc := 3) d_Msg_summary_3 ?_
  refine rx_imul C.1 (pc := 6) d_Msg_summary_6 ?_
  refine rx_ldc C.1 (v := 100000) k_Msg_40 (pc := 7) d_Msg_summary_7 ?_
  refine rx_aload_n C.1 (pc := 9) d_Msg_summary_9 rfl ?_
  refine g_Msg_15 D b ca C (by first | assumption | (constructor <;> omega) | omega) (pc := 10) d_Msg_summary_10 ?_
  refine rx_imul C.1 (pc := 13) d_Msg_summary_13 ?_
  refine rx_iadd C.1 (pc := 14) d_Msg_summary_14 ?_
  refine rx_sipush C.1 (v := 10000) (pc := 15) d_Msg_summary_15 (by decide) ?_
  refine rx_aload_n C.1 (pc := 18) d_Msg_summary_18 rfl ?_
  refine g_Msg_18 D b ca C (by first | assumption | (constructor <;> omega) | omega) (pc := 19) d_Msg_summary_19 ?_
  refine rx_imul C.1 (pc := 22) d_Msg_summary_22 ?_
  refine rx_iadd C.1 (pc := 23) d_Msg_summary_23 ?_
  refine rx_aload_n C.1 (pc := 24) d_Msg_summary_24 rfl ?_
  refine g_Msg_21 D b ca C (by first | assumption | (constructor <;> omega) | omega) (pc := 25) d_Msg_summary_25 ?_
  refine rx_iadd C.1 (pc := 28) d_Msg_summary_28 ?_
  exact rx_iret C (pc := 29) d_Msg_summary_29 (by first | rfl | (unfold rv_Msg_summary; rfl)) rfl

def rv_Wire_isFull (σ : rMem)  : Int32 := if (σ 1 1) < 40 then 0 else 1
set_option maxHeartbeats 4000000 in
set_option maxRecDepth 100000 in
theorem c_Wire_isFull (l : Launch) (D : va_G) (b : Nat) (ca : Nat → ClassId) {σ : rMem}  : rx_C l (rx_fin D b ca) y_Wire_isFull b_Wire_isFull 1 (some .boolean) (rx_rm 0) [.ref (rg_A (rx_fin D b ca) 1)] σ (some (.int (rv_Wire_isFull σ))) σ := by
  refine rx_of (lo := [(0, .ref (rg_A (rx_fin D b ca) 1))]) (by decide) (rx_fin_D D b ca) rfl (Nat.le_of_ble_eq_true rfl) rfl ?_
  intro p e s m below meth c C
  refine rx_aload_n C.1 (pc := 0) d_Wire_isFull_0 rfl ?_
  refine g_Wire_18 D b ca C (pc := 1) d_Wire_isFull_1 ?_
  refine rx_bipush C.1 (v := 40) (pc := 4) d_Wire_isFull_4 (by decide) ?_
  refine rx_icmp_lt C.1 (pc := 6) d_Wire_isFull_6 (tgt := 13) rfl (fun h1 => ?_) (fun h1 => ?_)
  ·
    refine rx_iconst C.1 (v := 0) (pc := 13) d_Wire_isFull_13 (by decide) ?_
    exact rx_zret C (pc := 14) d_Wire_isFull_14 (Or.inl rfl) (by unfold rv_Wire_isFull; first | (simp only [if_pos h1]; done) | (simp only [if_pos h1]; rfl)) rfl
  ·
    refine rx_iconst C.1 (v := 1) (pc := 9) d_Wire_isFull_9 (by decide) ?_
    refine rx_goto C.1 (pc := 10) d_Wire_isFull_10 (tgt := 14) rfl ?_
    exact rx_zret C (pc := 14) d_Wire_isFull_14 (Or.inr rfl) (by unfold rv_Wire_isFull; first | (simp only [if_neg h1]; done) | (simp only [if_neg h1]; rfl)) rfl

def rv_Wire_holds (σ : rMem) (i : Int32) : Int32 := if i < 0 then 0 else (if (σ 1 1) ≤ i then 0 else 1)
set_option maxHeartbeats 4000000 in
set_option maxRecDepth 100000 in
theorem c_Wire_holds (l : Launch) (D : va_G) (b : Nat) (ca : Nat → ClassId) {σ : rMem} {i : Int32} : rx_C l (rx_fin D b ca) y_Wire_holds b_Wire_holds 2 (some .boolean) (rx_rm 0) [.ref (rg_A (rx_fin D b ca) 1), .int i] σ (some (.int (rv_Wire_holds σ i))) σ := by
  refine rx_of (lo := [(0, .ref (rg_A (rx_fin D b ca) 1)), (1, .int i)]) (by decide) (rx_fin_D D b ca) rfl (Nat.le_of_ble_eq_true rfl) rfl ?_
  intro p e s m below meth c C
  refine rx_iload_n C.1 (pc := 0) d_Wire_holds_0 rfl ?_
  refine rx_if_lt C.1 (pc := 1) d_Wire_holds_1 (tgt := 16) rfl (fun h1 => ?_) (fun h1 => ?_)
  ·
    refine rx_iconst C.1 (v := 0) (pc := 16) d_Wire_holds_16 (by decide) ?_
    exact rx_zret C (pc := 17) d_Wire_holds_17 (Or.inl rfl) (by unfold rv_Wire_holds; first | (simp only [if_pos h1]; done) | (simp only [if_pos h1]; rfl)) rfl
  ·
    refine rx_iload_n C.1 (pc := 4) d_Wire_holds_4 rfl ?_
    refine rx_aload_n C.1 (pc := 5) d_Wire_holds_5 rfl ?_
    refine g_Wire_18 D b ca C (pc := 6) d_Wire_holds_6 ?_
    refine rx_icmp_ge C.1 (pc := 9) d_Wire_holds_9 (tgt := 16) rfl (fun h2 => ?_) (fun h2 => ?_)
    ·
      refine rx_iconst C.1 (v := 0) (pc := 16) d_Wire_holds_16 (by decide) ?_
      exact rx_zret C (pc := 17) d_Wire_holds_17 (Or.inl rfl) (by unfold rv_Wire_holds; first | (simp only [if_neg h1, if_pos h2]; done) | (simp only [if_neg h1, if_pos h2]; rfl)) rfl
    ·
      refine rx_iconst C.1 (v := 1) (pc := 12) d_Wire_holds_12 (by decide) ?_
      refine rx_goto C.1 (pc := 13) d_Wire_holds_13 (tgt := 17) rfl ?_
      exact rx_zret C (pc := 17) d_Wire_holds_17 (Or.inr rfl) (by unfold rv_Wire_holds; first | (simp only [if_neg h1, if_neg h2]; done) | (simp only [if_neg h1, if_neg h2]; rfl)) rfl

def sp_Msg_copyFrom (σ : rMem) (q : Nat) (r : Nat) : rMem := let m1 := rx_wr σ q 0 (σ r 0); let m2 := rx_wr m1 q 1 (m1 r 1); let m3 := rx_wr m2 q 2 (m2 r 2); let m4 := rx_wr m3 q 3 (m3 r 3); let m5 := rx_wr m4 q 4 (m4 r 4); let m6 := rx_wr m5 q 5 (m5 r 5); let m7 := rx_wr m6 q 6 (m6 r 6); let m8 := rx_wr m7 q 7 (m7 r 7); let m9 := rx_wr m8 q 8 (m8 r 8); m9
set_option maxHeartbeats 4000000 in
set_option maxRecDepth 100000 in
theorem c_Msg_copyFrom (l : Launch) (D : va_G) (b : Nat) (ca : Nat → ClassId) {σ : rMem} {q : Nat} (hq : 3 ≤ q ∧ q < 45) {r : Nat} (hr : 3 ≤ r ∧ r < 45) : rx_C l (rx_fin D b ca) y_Msg_copyFrom b_Msg_copyFrom 2 none (rx_rm 0) [.ref (rg_A (rx_fin D b ca) q), .ref (rg_A (rx_fin D b ca) r)] σ none (sp_Msg_copyFrom σ q r) := by
  refine rx_of (lo := [(0, .ref (rg_A (rx_fin D b ca) q)), (1, .ref (rg_A (rx_fin D b ca) r))]) (by decide) (rx_fin_D D b ca) rfl (Nat.le_of_ble_eq_true rfl) rfl ?_
  intro p e s m below meth c C
  refine rx_aload_n C.1 (pc := 0) d_Msg_copyFrom_0 rfl ?_
  refine rx_aload_n C.1 (pc := 1) d_Msg_copyFrom_1 rfl ?_
  refine g_Msg_9 D b ca C (by first | assumption | (constructor <;> omega) | omega) (pc := 2) d_Msg_copyFrom_2 ?_
  refine p_Msg_9 D b ca C (by first | assumption | (constructor <;> omega) | omega) (pc := 5) d_Msg_copyFrom_5 ?_
  refine rx_aload_n C.1 (pc := 8) d_Msg_copyFrom_8 rfl ?_
  refine rx_aload_n C.1 (pc := 9) d_Msg_copyFrom_9 rfl ?_
  refine g_Msg_15 D b ca C (by first | assumption | (constructor <;> omega) | omega) (pc := 10) d_Msg_copyFrom_10 ?_
  refine p_Msg_15 D b ca C (by first | assumption | (constructor <;> omega) | omega) (pc := 13) d_Msg_copyFrom_13 ?_
  refine rx_aload_n C.1 (pc := 16) d_Msg_copyFrom_16 rfl ?_
  refine rx_aload_n C.1 (pc := 17) d_Msg_copyFrom_17 rfl ?_
  refine g_Msg_24 D b ca C (by first | assumption | (constructor <;> omega) | omega) (pc := 18) d_Msg_copyFrom_18 ?_
  refine p_Msg_24 D b ca C (by first | assumption | (constructor <;> omega) | omega) (pc := 21) d_Msg_copyFrom_21 ?_
  refine rx_aload_n C.1 (pc := 24) d_Msg_copyFrom_24 rfl ?_
  refine rx_aload_n C.1 (pc := 25) d_Msg_copyFrom_25 rfl ?_
  refine g_Msg_18 D b ca C (by first | assumption | (constructor <;> omega) | omega) (pc := 26) d_Msg_copyFrom_26 ?_
  refine p_Msg_18 D b ca C (by first | assumption | (constructor <;> omega) | omega) (pc := 29) d_Msg_copyFrom_29 ?_
  refine rx_aload_n C.1 (pc := 32) d_Msg_copyFrom_32 rfl ?_
  refine rx_aload_n C.1 (pc := 33) d_Msg_copyFrom_33 rfl ?_
  refine g_Msg_21 D b ca C (by first | assumption | (constructor <;> omega) | omega) (pc := 34) d_Msg_copyFrom_34 ?_
  refine p_Msg_21 D b ca C (by first | assumption | (constructor <;> omega) | omega) (pc := 37) d_Msg_copyFrom_37 ?_
  refine rx_aload_n C.1 (pc := 40) d_Msg_copyFrom_40 rfl ?_
  refine rx_aload_n C.1 (pc := 41) d_Msg_copyFrom_41 rfl ?_
  refine g_Msg_27 D b ca C (by first | assumption | (constructor <;> omega) | omega) (pc := 42) d_Msg_copyFrom_42 ?_
  refine p_Msg_27 D b ca C (by first | assumption | (constructor <;> omega) | omega) (pc := 45) d_Msg_copyFrom_45 ?_
  refine rx_aload_n C.1 (pc := 48) d_Msg_copyFrom_48 rfl ?_
  refine rx_aload_n C.1 (pc := 49) d_Msg_copyFrom_49 rfl ?_
  refine g_Msg_30 D b ca C (by first | assumption | (constructor <;> omega) | omega) (pc := 50) d_Msg_copyFrom_50 ?_
  refine p_Msg_30 D b ca C (by first | assumption | (constructor <;> omega) | omega) (pc := 53) d_Msg_copyFrom_53 ?_
  refine rx_aload_n C.1 (pc := 56) d_Msg_copyFrom_56 rfl ?_
  refine rx_aload_n C.1 (pc := 57) d_Msg_copyFrom_57 rfl ?_
  refine g_Msg_33 D b ca C (by first | assumption | (constructor <;> omega) | omega) (pc := 58) d_Msg_copyFrom_58 ?_
  refine p_Msg_33 D b ca C (by first | assumption | (constructor <;> omega) | omega) (pc := 61) d_Msg_copyFrom_61 ?_
  refine rx_aload_n C.1 (pc := 64) d_Msg_copyFrom_64 rfl ?_
  refine rx_aload_n C.1 (pc := 65) d_Msg_copyFrom_65 rfl ?_
  refine g_Msg_36 D b ca C (by first | assumption | (constructor <;> omega) | omega) (pc := 66) d_Msg_copyFrom_66 ?_
  refine p_Msg_36 D b ca C (by first | assumption | (constructor <;> omega) | omega) (pc := 69) d_Msg_copyFrom_69 ?_
  exact rx_vret C (pc := 72) d_Msg_copyFrom_72 (by first | rfl | (unfold sp_Msg_copyFrom; rfl))

def rv_Mob_endsSoon (σ : rMem) (j : Nat) : Int32 := if (σ (46 + j) 6) = 0 then 0 else (if ((σ 1 2) + 4) < (σ (46 + j) 7) then 0 else 1)
set_option maxHeartbeats 4000000 in
set_option maxRecDepth 100000 in
theorem c_Mob_endsSoon (l : Launch) (D : va_G) (b : Nat) (ca : Nat → ClassId) {σ : rMem} {j : Nat} (hj : j < 2) : rx_C l (rx_fin D b ca) y_Mob_endsSoon b_Mob_endsSoon 1 (some .boolean) (rx_rm 0) [.ref (rg_A (rx_fin D b ca) (46 + j))] σ (some (.int (rv_Mob_endsSoon σ j))) σ := by
  refine rx_of (lo := [(0, .ref (rg_A (rx_fin D b ca) (46 + j)))]) (by decide) (rx_fin_D D b ca) rfl (Nat.le_of_ble_eq_true rfl) rfl ?_
  intro p e s m below meth c C
  refine rx_aload_n C.1 (pc := 0) d_Mob_endsSoon_0 rfl ?_
  refine g_Mob_22 D b ca C (by first | assumption | (constructor <;> omega) | omega) (pc := 1) d_Mob_endsSoon_1 ?_
  refine rx_if_eq C.1 (pc := 4) d_Mob_endsSoon_4 (tgt := 27) rfl (fun h1 => ?_) (fun h1 => ?_)
  ·
    refine rx_iconst C.1 (v := 0) (pc := 27) d_Mob_endsSoon_27 (by decide) ?_
    exact rx_zret C (pc := 28) d_Mob_endsSoon_28 (Or.inl rfl) (by unfold rv_Mob_endsSoon; first | (simp only [if_pos h1]; done) | (simp only [if_pos h1]; rfl)) rfl
  ·
    refine rx_aload_n C.1 (pc := 7) d_Mob_endsSoon_7 rfl ?_
    refine g_Mob_26 D b ca C (by first | assumption | (constructor <;> omega) | omega) (pc := 8) d_Mob_endsSoon_8 ?_
    refine rx_aload_n C.1 (pc := 11) d_Mob_endsSoon_11 rfl ?_
    refine g_Mob_18 D b ca C (by first | assumption | (constructor <;> omega) | omega) (pc := 12) d_Mob_endsSoon_12 ?_
    refine g_Mob_55 D b ca C (pc := 15) d_Mob_endsSoon_15 ?_
    refine rx_iconst C.1 (v := 4) (pc := 18) d_Mob_endsSoon_18 (by decide) ?_
    refine rx_iadd C.1 (pc := 19) d_Mob_endsSoon_19 ?_
    refine rx_icmp_gt C.1 (pc := 20) d_Mob_endsSoon_20 (tgt := 27) rfl (fun h2 => ?_) (fun h2 => ?_)
    ·
      refine rx_iconst C.1 (v := 0) (pc := 27) d_Mob_endsSoon_27 (by decide) ?_
      exact rx_zret C (pc := 28) d_Mob_endsSoon_28 (Or.inl rfl) (by unfold rv_Mob_endsSoon; first | (simp only [if_neg h1, if_pos h2]; done) | (simp only [if_neg h1, if_pos h2]; rfl)) rfl
    ·
      refine rx_iconst C.1 (v := 1) (pc := 23) d_Mob_endsSoon_23 (by decide) ?_
      refine rx_goto C.1 (pc := 24) d_Mob_endsSoon_24 (tgt := 28) rfl ?_
      exact rx_zret C (pc := 28) d_Mob_endsSoon_28 (Or.inr rfl) (by unfold rv_Mob_endsSoon; first | (simp only [if_neg h1, if_neg h2]; done) | (simp only [if_neg h1, if_neg h2]; rfl)) rfl

def rv_Home_isBound (σ : rMem) (m : Int32) : Int32 := if (σ 52 m.toNatClampNeg) ≤ (σ 1 2) then 0 else 1
set_option maxHeartbeats 4000000 in
set_option maxRecDepth 100000 in
theorem c_Home_isBound (l : Launch) (D : va_G) (b : Nat) (ca : Nat → ClassId) {σ : rMem} {m : Int32} (hm : rx_iM m) : rx_C l (rx_fin D b ca) y_Home_isBound b_Home_isBound 2 (some .boolean) (rx_rm 0) [.ref (rg_A (rx_fin D b ca) 48), .int m] σ (some (.int (rv_Home_isBound σ m))) σ := by
  refine rx_of (lo := [(0, .ref (rg_A (rx_fin D b ca) 48)), (1, .int m)]) (by decide) (rx_fin_D D b ca) rfl (Nat.le_of_ble_eq_true rfl) rfl ?_
  intro p e s m below meth c C
  refine rx_aload_n C.1 (pc := 0) d_Home_isBound_0 rfl ?_
  refine g_Home_15 D b ca C (pc := 1) d_Home_isBound_1 ?_
  refine g_Home_32 D b ca C (pc := 4) d_Home_isBound_4 ?_
  refine rx_aload_n C.1 (pc := 7) d_Home_isBound_7 rfl ?_
  refine g_Home_29 D b ca C (pc := 8) d_Home_isBound_8 ?_
  refine rx_iload_n C.1 (pc := 11) d_Home_isBound_11 rfl ?_
  refine rx_iald C (i := 52) (n := 2) (pc := 12) d_Home_isBound_12 (rx_lt (by decide)) rfl (by first | assumption | exact rx_in2 (by assumption) | exact rx_v02 | exact rx_v12) ?_
  refine rx_icmp_ge C.1 (pc := 13) d_Home_isBound_13 (tgt := 20) rfl (fun h1 => ?_) (fun h1 => ?_)
  ·
    refine rx_iconst C.1 (v := 0) (pc := 20) d_Home_isBound_20 (by decide) ?_
    exact rx_zret C (pc := 21) d_Home_isBound_21 (Or.inl rfl) (by unfold rv_Home_isBound; first | (simp only [if_pos h1]; done) | (simp only [if_pos h1]; rfl)) rfl
  ·
    refine rx_iconst C.1 (v := 1) (pc := 16) d_Home_isBound_16 (by decide) ?_
    refine rx_goto C.1 (pc := 17) d_Home_isBound_17 (tgt := 21) rfl ?_
    exact rx_zret C (pc := 21) d_Home_isBound_21 (Or.inr rfl) (by unfold rv_Home_isBound; first | (simp only [if_neg h1]; done) | (simp only [if_neg h1]; rfl)) rfl
