def sp_Net_key (σ : rMem) (sd : Int32) (m : Int32) (x : Int32) : rMem × Int32 := if (rv_Net_isMobile m) = 0 then (σ, 0) else (if (rv_Net_isWithin sd 0 1) = 0 then (σ, 0) else (if sd = 1 then (let m2 := rx_wr σ (46 + m.toNatClampNeg) 3 x; (m2, 1)) else (let m1 := rx_wr σ 49 m.toNatClampNeg x; (m1, 1))))
set_option maxHeartbeats 4000000 in
set_option maxRecDepth 100000 in
theorem c_Net_key (l : Launch) (D : va_G) (b : Nat) (ca : Nat → ClassId) {σ : rMem} {sd : Int32} {m : Int32} {x : Int32} : rx_C l (rx_fin D b ca) y_Net_key b_Net_key 4 (some .boolean) (rx_rm 2) [.ref (rg_A (rx_fin D b ca) 0), .int sd, .int m, .int x] σ (some (.int (sp_Net_key σ sd m x).2)) (sp_Net_key σ sd m x).1 := by
  refine rx_of (lo := [(0, .ref (rg_A (rx_fin D b ca) 0)), (1, .int sd), (2, .int m), (3, .int x)]) (by decide) (rx_fin_D D b ca) rfl (Nat.le_of_ble_eq_true rfl) rfl ?_
  intro p e s mm below meth c C
  refine rx_iload_n C.1 (pc := 0) d_Net_key_0 rfl ?_
  refine q_Net_63 C.1 (pc := 1) d_Net_key_1 (c_Net_isMobile l ) ⟨Nat.le_of_ble_eq_true rfl, Nat.le_of_ble_eq_true rfl⟩ ⟨Nat.zero_le _, Nat.zero_le _⟩ (Nat.le_of_ble_eq_true rfl) ?_
  refine rx_if_eq C.1 (pc := 4) d_Net_key_4 (tgt := 16) rfl (fun h1 => ?_) (fun h1 => ?_)
  ·
    refine rx_iconst C.1 (v := 0) (pc := 16) d_Net_key_16 (by decide) ?_
    exact rx_zret C (pc := 17) d_Net_key_17 (Or.inl rfl) (by unfold sp_Net_key; first | (simp only [if_pos h1]; done) | (simp only [if_pos h1]; rfl)) (by unfold sp_Net_key; first | (simp only [if_pos h1]; done) | (simp only [if_pos h1]; rfl))
  ·
    have g1 := rm_Net h1
    have j1 := rx_j2 g1
    refine rx_iload_n C.1 (pc := 7) d_Net_key_7 rfl ?_
    refine rx_iconst C.1 (v := 0) (pc := 8) d_Net_key_8 (by decide) ?_
    refine rx_iconst C.1 (v := 1) (pc := 9) d_Net_key_9 (by decide) ?_
    refine q_Net_11 C.1 (pc := 10) d_Net_key_10 (c_Net_isWithin l ) ⟨Nat.le_of_ble_eq_true rfl, Nat.le_of_ble_eq_true rfl⟩ ⟨Nat.zero_le _, Nat.zero_le _⟩ (Nat.le_of_ble_eq_true rfl) ?_
    refine rx_if_ne C.1 (pc := 13) d_Net_key_13 (tgt := 18) rfl (fun h2 => ?_) (fun h2 => ?_)
    ·
      refine rx_iload_n C.1 (pc := 18) d_Net_key_18 rfl ?_
      refine rx_iconst C.1 (v := 1) (pc := 19) d_Net_key_19 (by decide) ?_
      refine rx_icmp_ne C.1 (pc := 20) d_Net_key_20 (tgt := 36) rfl (fun h3 => ?_) (fun h3 => ?_)
      ·
        refine rx_aload_n C.1 (pc := 36) d_Net_key_36 rfl ?_
        refine g_Net_43 D b ca C (pc := 37) d_Net_key_37 ?_
        refine g_Net_71 D b ca C (pc := 40) d_Net_key_40 ?_
        refine rx_iload_n C.1 (pc := 43) d_Net_key_43 rfl ?_
        refine rx_iload_n C.1 (pc := 44) d_Net_key_44 rfl ?_
        refine rx_iast C (i := 49) (n := 2) (pc := 45) d_Net_key_45 (rx_lt (by decide)) (fun _ => rfl) (by first | assumption | exact rx_in2 (by assumption) | exact rx_v02 | exact rx_v12 | exact vp_in_iff.mpr (by decide)) (rx_SI_wr (by omega)) ?_
        refine rx_iconst C.1 (v := 1) (pc := 46) d_Net_key_46 (by decide) ?_
        exact rx_zret C (pc := 47) d_Net_key_47 (Or.inr rfl) (by unfold sp_Net_key; first | (simp only [if_neg h1, if_neg h2, if_neg h3]; done) | (simp only [if_neg h1, if_neg h2, if_neg h3]; rfl)) (by unfold sp_Net_key; first | (simp only [if_neg h1, if_neg h2, if_neg h3]; done) | (simp only [if_neg h1, if_neg h2, if_neg h3]; rfl))
      ·
        have hj := rx_j2 g1
        refine rx_aload_n C.1 (pc := 23) d_Net_key_23 rfl ?_
        refine g_Net_31 D b ca C (pc := 24) d_Net_key_24 ?_
        refine rx_iload_n C.1 (pc := 27) d_Net_key_27 rfl ?_
        refine rx_ald_mobs D b ca C (pc := 28) d_Net_key_28 (by first | assumption | exact rx_in2 (by assumption) | exact rx_v02 | exact rx_v12 | exact vp_in_iff.mpr (by decide)) ?_
        refine rx_iload_n C.1 (pc := 29) d_Net_key_29 rfl ?_
        refine p_Net_67 D b ca C (by first | assumption | (constructor <;> omega) | omega | decide) (pc := 30) d_Net_key_30 ?_
        refine rx_goto C.1 (pc := 33) d_Net_key_33 (tgt := 46) rfl ?_
        refine rx_iconst C.1 (v := 1) (pc := 46) d_Net_key_46 (by decide) ?_
        exact rx_zret C (pc := 47) d_Net_key_47 (Or.inr rfl) (by unfold sp_Net_key; first | (simp only [if_neg h1, if_neg h2, if_pos h3]; done) | (simp only [if_neg h1, if_neg h2, if_pos h3]; rfl)) (by unfold sp_Net_key; first | (simp only [if_neg h1, if_neg h2, if_pos h3]; done) | (simp only [if_neg h1, if_neg h2, if_pos h3]; rfl))
    ·
      refine rx_iconst C.1 (v := 0) (pc := 16) d_Net_key_16 (by decide) ?_
      exact rx_zret C (pc := 17) d_Net_key_17 (Or.inl rfl) (by unfold sp_Net_key; first | (simp only [if_neg h1, if_pos h2]; done) | (simp only [if_neg h1, if_pos h2]; rfl)) (by unfold sp_Net_key; first | (simp only [if_neg h1, if_pos h2]; done) | (simp only [if_neg h1, if_pos h2]; rfl))

def sp_Net_move (σ : rMem) (m : Int32) (x : Int32) : rMem × Int32 := if (rv_Net_isMobile m) = 0 then (σ, 0) else (if (rv_Net_isWithin x 0 4) = 0 then (σ, 0) else (let m1 := rx_wr σ (46 + m.toNatClampNeg) 4 x; (m1, 1)))
set_option maxHeartbeats 4000000 in
set_option maxRecDepth 100000 in
theorem c_Net_move (l : Launch) (D : va_G) (b : Nat) (ca : Nat → ClassId) {σ : rMem} {m : Int32} {x : Int32} : rx_C l (rx_fin D b ca) y_Net_move b_Net_move 3 (some .boolean) (rx_rm 2) [.ref (rg_A (rx_fin D b ca) 0), .int m, .int x] σ (some (.int (sp_Net_move σ m x).2)) (sp_Net_move σ m x).1 := by
  refine rx_of (lo := [(0, .ref (rg_A (rx_fin D b ca) 0)), (1, .int m), (2, .int x)]) (by decide) (rx_fin_D D b ca) rfl (Nat.le_of_ble_eq_true rfl) rfl ?_
  intro p e s mm below meth c C
  refine rx_iload_n C.1 (pc := 0) d_Net_move_0 rfl ?_
  refine q_Net_63 C.1 (pc := 1) d_Net_move_1 (c_Net_isMobile l ) ⟨Nat.le_of_ble_eq_true rfl, Nat.le_of_ble_eq_true rfl⟩ ⟨Nat.zero_le _, Nat.zero_le _⟩ (Nat.le_of_ble_eq_true rfl) ?_
  refine rx_if_eq C.1 (pc := 4) d_Net_move_4 (tgt := 16) rfl (fun h1 => ?_) (fun h1 => ?_)
  ·
    refine rx_iconst C.1 (v := 0) (pc := 16) d_Net_move_16 (by decide) ?_
    exact rx_zret C (pc := 17) d_Net_move_17 (Or.inl rfl) (by unfold sp_Net_move; first | (simp only [if_pos h1]; done) | (simp only [if_pos h1]; rfl)) (by unfold sp_Net_move; first | (simp only [if_pos h1]; done) | (simp only [if_pos h1]; rfl))
  ·
    have g1 := rm_Net h1
    have j1 := rx_j2 g1
    refine rx_iload_n C.1 (pc := 7) d_Net_move_7 rfl ?_
    refine rx_iconst C.1 (v := 0) (pc := 8) d_Net_move_8 (by decide) ?_
    refine rx_iconst C.1 (v := 4) (pc := 9) d_Net_move_9 (by decide) ?_
    refine q_Net_11 C.1 (pc := 10) d_Net_move_10 (c_Net_isWithin l ) ⟨Nat.le_of_ble_eq_true rfl, Nat.le_of_ble_eq_true rfl⟩ ⟨Nat.zero_le _, Nat.zero_le _⟩ (Nat.le_of_ble_eq_true rfl) ?_
    refine rx_if_ne C.1 (pc := 13) d_Net_move_13 (tgt := 18) rfl (fun h2 => ?_) (fun h2 => ?_)
    ·
      refine rx_aload_n C.1 (pc := 18) d_Net_move_18 rfl ?_
      refine g_Net_31 D b ca C (pc := 19) d_Net_move_19 ?_
      refine rx_iload_n C.1 (pc := 22) d_Net_move_22 rfl ?_
      refine rx_ald_mobs D b ca C (pc := 23) d_Net_move_23 (by first | assumption | exact rx_in2 (by assumption) | exact rx_v02 | exact rx_v12 | exact vp_in_iff.mpr (by decide)) ?_
      refine rx_iload_n C.1 (pc := 24) d_Net_move_24 rfl ?_
      refine p_Net_75 D b ca C (by first | assumption | (constructor <;> omega) | omega | decide) (pc := 25) d_Net_move_25 ?_
      refine rx_iconst C.1 (v := 1) (pc := 28) d_Net_move_28 (by decide) ?_
      exact rx_zret C (pc := 29) d_Net_move_29 (Or.inr rfl) (by unfold sp_Net_move; first | (simp only [if_neg h1, if_neg h2]; done) | (simp only [if_neg h1, if_neg h2]; rfl)) (by unfold sp_Net_move; first | (simp only [if_neg h1, if_neg h2]; done) | (simp only [if_neg h1, if_neg h2]; rfl))
    ·
      refine rx_iconst C.1 (v := 0) (pc := 16) d_Net_move_16 (by decide) ?_
      exact rx_zret C (pc := 17) d_Net_move_17 (Or.inl rfl) (by unfold sp_Net_move; first | (simp only [if_neg h1, if_pos h2]; done) | (simp only [if_neg h1, if_pos h2]; rfl)) (by unfold sp_Net_move; first | (simp only [if_neg h1, if_pos h2]; done) | (simp only [if_neg h1, if_pos h2]; rfl))

def sp_Net_say (σ : rMem) (m : Int32) : rMem × Int32 := if (rv_Net_isMobile m) = 0 then (σ, (-1)) else (if (σ 67 m.toNatClampNeg) < 200 then (let m1 := rx_wr σ 67 m.toNatClampNeg ((σ 67 m.toNatClampNeg) + 1); let m2 := sp_Corr_pump m1 m; (m2, (m2 67 m.toNatClampNeg))) else (σ, (-1)))
set_option maxHeartbeats 4000000 in
set_option maxRecDepth 100000 in
theorem c_Net_say (l : Launch) (D : va_G) (b : Nat) (ca : Nat → ClassId) {σ : rMem} {m : Int32} : rx_C l (rx_fin D b ca) y_Net_say b_Net_say 2 (some .int) (rx_rm 4) [.ref (rg_A (rx_fin D b ca) 0), .int m] σ (some (.int (sp_Net_say σ m).2)) (sp_Net_say σ m).1 := by
  refine rx_of (lo := [(0, .ref (rg_A (rx_fin D b ca) 0)), (1, .int m)]) (by decide) (rx_fin_D D b ca) rfl (Nat.le_of_ble_eq_true rfl) rfl ?_
  intro p e s mm below meth c C
  refine rx_iload_n C.1 (pc := 0) d_Net_say_0 rfl ?_
  refine q_Net_63 C.1 (pc := 1) d_Net_say_1 (c_Net_isMobile l ) ⟨Nat.le_of_ble_eq_true rfl, Nat.le_of_ble_eq_true rfl⟩ ⟨Nat.zero_le _, Nat.zero_le _⟩ (Nat.le_of_ble_eq_true rfl) ?_
  refine rx_if_eq C.1 (pc := 4) d_Net_say_4 (tgt := 22) rfl (fun h1 => ?_) (fun h1 => ?_)
  ·
    refine rx_iconst C.1 (v := (-1)) (pc := 22) d_Net_say_22 (by decide) ?_
    exact rx_iret C (pc := 23) d_Net_say_23 (by unfold sp_Net_say; first | (simp only [if_pos h1]; done) | (simp only [if_pos h1]; rfl)) (by unfold sp_Net_say; first | (simp only [if_pos h1]; done) | (simp only [if_pos h1]; rfl))
  ·
    have g1 := rm_Net h1
    have j1 := rx_j2 g1
    refine rx_aload_n C.1 (pc := 7) d_Net_say_7 rfl ?_
    refine g_Net_59 D b ca C (pc := 8) d_Net_say_8 ?_
    refine g_Net_81 D b ca C (pc := 11) d_Net_say_11 ?_
    refine rx_iload_n C.1 (pc := 14) d_Net_say_14 rfl ?_
    refine rx_iald C (i := 67) (n := 2) (pc := 15) d_Net_say_15 (rx_lt (by decide)) rfl (by first | assumption | exact rx_in2 (by assumption) | exact rx_v02 | exact rx_v12 | exact vp_in_iff.mpr (by decide)) ?_
    refine rx_sipush C.1 (v := 200) (pc := 16) d_Net_say_16 (by decide) ?_
    refine rx_icmp_lt C.1 (pc := 19) d_Net_say_19 (tgt := 24) rfl (fun h2 => ?_) (fun h2 => ?_)
    ·
      refine rx_aload_n C.1 (pc := 24) d_Net_say_24 rfl ?_
      refine g_Net_59 D b ca C (pc := 25) d_Net_say_25 ?_
      refine g_Net_81 D b ca C (pc := 28) d_Net_say_28 ?_
      refine rx_iload_n C.1 (pc := 31) d_Net_say_31 rfl ?_
      refine rx_dup2_11 C.1 (pc := 32) d_Net_say_32 rfl rfl ?_
      refine rx_iald C (i := 67) (n := 2) (pc := 33) d_Net_say_33 (rx_lt (by decide)) rfl (by first | assumption | exact rx_in2 (by assumption) | exact rx_v02 | exact rx_v12 | exact vp_in_iff.mpr (by decide)) ?_
      refine rx_iconst C.1 (v := 1) (pc := 34) d_Net_say_34 (by decide) ?_
      refine rx_iadd C.1 (pc := 35) d_Net_say_35 ?_
      have hz := sy_ok h2
      refine rx_iast C (i := 67) (n := 2) (pc := 36) d_Net_say_36 (rx_lt (by decide)) (fun _ => rfl) (by first | assumption | exact rx_in2 (by assumption) | exact rx_v02 | exact rx_v12 | exact vp_in_iff.mpr (by decide)) (rx_SI_cnt (by omega) hz) ?_
      refine rx_aload_n C.1 (pc := 37) d_Net_say_37 rfl ?_
      refine g_Net_59 D b ca C (pc := 38) d_Net_say_38 ?_
      refine rx_iload_n C.1 (pc := 41) d_Net_say_41 rfl ?_
      refine q_Net_84 D b ca C (pc := 42) d_Net_say_42 (c_Corr_pump l D b ca (by first | assumption | exact rx_iM0 | exact rx_iM1 | (constructor <;> omega))) ⟨Nat.le_of_ble_eq_true rfl, Nat.le_of_ble_eq_true rfl⟩ ⟨Nat.zero_le _, Nat.zero_le _⟩ (Nat.le_of_ble_eq_true rfl) ?_
      refine rx_aload_n C.1 (pc := 45) d_Net_say_45 rfl ?_
      refine g_Net_59 D b ca C (pc := 46) d_Net_say_46 ?_
      refine g_Net_81 D b ca C (pc := 49) d_Net_say_49 ?_
      refine rx_iload_n C.1 (pc := 52) d_Net_say_52 rfl ?_
      refine rx_iald C (i := 67) (n := 2) (pc := 53) d_Net_say_53 (rx_lt (by decide)) rfl (by first | assumption | exact rx_in2 (by assumption) | exact rx_v02 | exact rx_v12 | exact vp_in_iff.mpr (by decide)) ?_
      exact rx_iret C (pc := 54) d_Net_say_54 (by unfold sp_Net_say; first | (simp only [if_neg h1, if_pos h2]; done) | (simp only [if_neg h1, if_pos h2]; rfl)) (by unfold sp_Net_say; first | (simp only [if_neg h1, if_pos h2]; done) | (simp only [if_neg h1, if_pos h2]; rfl))
    ·
      refine rx_iconst C.1 (v := (-1)) (pc := 22) d_Net_say_22 (by decide) ?_
      exact rx_iret C (pc := 23) d_Net_say_23 (by unfold sp_Net_say; first | (simp only [if_neg h1, if_neg h2]; done) | (simp only [if_neg h1, if_neg h2]; rfl)) (by unfold sp_Net_say; first | (simp only [if_neg h1, if_neg h2]; done) | (simp only [if_neg h1, if_neg h2]; rfl))

def sp_Net_handOver (σ : rMem) (r : Nat) : rMem := if (σ r 1) = 5 then (let m4 := sp_Mob_receive σ ((σ r 3).toNatClampNeg) r; m4) else (if (σ r 1) = 4 then (let m3 := sp_Corr_receive σ r; m3) else (if (σ r 1) = 0 then (let m2 := sp_Home_receive σ r; m2) else (let m1 := sp_Fa_receive σ (((σ r 1) - 1).toNatClampNeg) r; m1)))
set_option maxHeartbeats 4000000 in
set_option maxRecDepth 100000 in
theorem c_Net_handOver (l : Launch) (D : va_G) (b : Nat) (ca : Nat → ClassId) {σ : rMem} {r : Nat} (hr : 3 ≤ r ∧ r < 45) (hm : rx_iM (σ r 3)) (ht : rx_t5 (σ r 1)) : rx_C l (rx_fin D b ca) y_Net_handOver b_Net_handOver 2 none (rx_rm 6) [.ref (rg_A (rx_fin D b ca) 0), .ref (rg_A (rx_fin D b ca) r)] σ none (sp_Net_handOver σ r) := by
  refine rx_of (lo := [(0, .ref (rg_A (rx_fin D b ca) 0)), (1, .ref (rg_A (rx_fin D b ca) r))]) (by decide) (rx_fin_D D b ca) rfl (Nat.le_of_ble_eq_true rfl) rfl ?_
  intro p e s mm below meth c C
  refine rx_aload_n C.1 (pc := 0) d_Net_handOver_0 rfl ?_
  refine g_Net_180 D b ca C (by first | assumption | (constructor <;> omega) | omega | decide) (pc := 1) d_Net_handOver_1 ?_
  refine rx_iconst C.1 (v := 5) (pc := 4) d_Net_handOver_4 (by decide) ?_
  refine rx_icmp_ne C.1 (pc := 5) d_Net_handOver_5 (tgt := 24) rfl (fun h1 => ?_) (fun h1 => ?_)
  ·
    refine rx_aload_n C.1 (pc := 24) d_Net_handOver_24 rfl ?_
    refine g_Net_180 D b ca C (by first | assumption | (constructor <;> omega) | omega | decide) (pc := 25) d_Net_handOver_25 ?_
    refine rx_iconst C.1 (v := 4) (pc := 28) d_Net_handOver_28 (by decide) ?_
    refine rx_icmp_ne C.1 (pc := 29) d_Net_handOver_29 (tgt := 43) rfl (fun h2 => ?_) (fun h2 => ?_)
    ·
      refine rx_aload_n C.1 (pc := 43) d_Net_handOver_43 rfl ?_
      refine g_Net_180 D b ca C (by first | assumption | (constructor <;> omega) | omega | decide) (pc := 44) d_Net_handOver_44 ?_
      refine rx_if_ne C.1 (pc := 47) d_Net_handOver_47 (tgt := 61) rfl (fun h3 => ?_) (fun h3 => ?_)
      ·
        refine rx_aload_n C.1 (pc := 61) d_Net_handOver_61 rfl ?_
        refine g_Net_49 D b ca C (pc := 62) d_Net_handOver_62 ?_
        refine rx_aload_n C.1 (pc := 65) d_Net_handOver_65 rfl ?_
        refine g_Net_180 D b ca C (by first | assumption | (constructor <;> omega) | omega | decide) (pc := 66) d_Net_handOver_66 ?_
        refine rx_iconst C.1 (v := 1) (pc := 69) d_Net_handOver_69 (by decide) ?_
        refine rx_isub C.1 (pc := 70) d_Net_handOver_70 ?_
        have ha1 := ho_in ht h1 h2 h3
        have ha := rx_vn ha1
        refine rx_ald_fas D b ca C (pc := 71) d_Net_handOver_71 ha1 ?_
        refine rx_aload_n C.1 (pc := 72) d_Net_handOver_72 rfl ?_
        refine q_Net_191 D b ca C (by first | assumption | (constructor <;> omega) | omega | decide) (pc := 73) d_Net_handOver_73 (c_Fa_receive l D b ca (by first | assumption | (constructor <;> omega) | omega | decide) (by first | assumption | exact rx_iM0 | exact rx_iM1 | (constructor <;> omega)) (by first | assumption | exact rx_iM0 | exact rx_iM1 | (constructor <;> omega))) ⟨Nat.le_of_ble_eq_true rfl, Nat.le_of_ble_eq_true rfl⟩ ⟨Nat.zero_le _, Nat.zero_le _⟩ (Nat.le_of_ble_eq_true rfl) ?_
        exact rx_vret C (pc := 76) d_Net_handOver_76 (by unfold sp_Net_handOver; first | (simp only [if_neg h1, if_neg h2, if_neg h3]; done) | (simp only [if_neg h1, if_neg h2, if_neg h3]; rfl))
      ·
        refine rx_aload_n C.1 (pc := 50) d_Net_handOver_50 rfl ?_
        refine g_Net_43 D b ca C (pc := 51) d_Net_handOver_51 ?_
        refine rx_aload_n C.1 (pc := 54) d_Net_handOver_54 rfl ?_
        refine q_Net_190 D b ca C (pc := 55) d_Net_handOver_55 (c_Home_receive l D b ca (by first | assumption | exact rx_iM0 | exact rx_iM1 | (constructor <;> omega)) (by first | assumption | exact rx_iM0 | exact rx_iM1 | (constructor <;> omega))) ⟨Nat.le_of_ble_eq_true rfl, Nat.le_of_ble_eq_true rfl⟩ ⟨Nat.zero_le _, Nat.zero_le _⟩ (Nat.le_of_ble_eq_true rfl) ?_
        refine rx_goto C.1 (pc := 58) d_Net_handOver_58 (tgt := 76) rfl ?_
        exact rx_vret C (pc := 76) d_Net_handOver_76 (by unfold sp_Net_handOver; first | (simp only [if_neg h1, if_neg h2, if_pos h3]; done) | (simp only [if_neg h1, if_neg h2, if_pos h3]; rfl))
    ·
      refine rx_aload_n C.1 (pc := 32) d_Net_handOver_32 rfl ?_
      refine g_Net_59 D b ca C (pc := 33) d_Net_handOver_33 ?_
      refine rx_aload_n C.1 (pc := 36) d_Net_handOver_36 rfl ?_
      refine q_Net_189 D b ca C (pc := 37) d_Net_handOver_37 (c_Corr_receive l D b ca (by first | assumption | exact rx_iM0 | exact rx_iM1 | (constructor <;> omega)) (by first | assumption | exact rx_iM0 | exact rx_iM1 | (constructor <;> omega))) ⟨Nat.le_of_ble_eq_true rfl, Nat.le_of_ble_eq_true rfl⟩ ⟨Nat.zero_le _, Nat.zero_le _⟩ (Nat.le_of_ble_eq_true rfl) ?_
      refine rx_goto C.1 (pc := 40) d_Net_handOver_40 (tgt := 76) rfl ?_
      exact rx_vret C (pc := 76) d_Net_handOver_76 (by unfold sp_Net_handOver; first | (simp only [if_neg h1, if_pos h2]; done) | (simp only [if_neg h1, if_pos h2]; rfl))
  ·
    have hj := rx_j2 hm
    refine rx_aload_n C.1 (pc := 8) d_Net_handOver_8 rfl ?_
    refine g_Net_31 D b ca C (pc := 9) d_Net_handOver_9 ?_
    refine rx_aload_n C.1 (pc := 12) d_Net_handOver_12 rfl ?_
    refine g_Net_183 D b ca C (by first | assumption | (constructor <;> omega) | omega | decide) (pc := 13) d_Net_handOver_13 ?_
    refine rx_ald_mobs D b ca C (pc := 16) d_Net_handOver_16 (by first | assumption | exact rx_in2 (by assumption) | exact rx_v02 | exact rx_v12 | exact vp_in_iff.mpr (by decide)) ?_
    refine rx_aload_n C.1 (pc := 17) d_Net_handOver_17 rfl ?_
    refine q_Net_186 D b ca C (by first | assumption | (constructor <;> omega) | omega | decide) (pc := 18) d_Net_handOver_18 (c_Mob_receive l D b ca (by first | assumption | (constructor <;> omega) | omega | decide) (by first | assumption | exact rx_iM0 | exact rx_iM1 | (constructor <;> omega))) ⟨Nat.le_of_ble_eq_true rfl, Nat.le_of_ble_eq_true rfl⟩ ⟨Nat.zero_le _, Nat.zero_le _⟩ (Nat.le_of_ble_eq_true rfl) ?_
    refine rx_goto C.1 (pc := 21) d_Net_handOver_21 (tgt := 76) rfl ?_
    exact rx_vret C (pc := 76) d_Net_handOver_76 (by unfold sp_Net_handOver; first | (simp only [if_pos h1]; done) | (simp only [if_pos h1]; rfl))

def sp_Net_deliver (σ : rMem) (i : Int32) : rMem × Int32 := if (rv_Wire_holds σ i) = 0 then (σ, 0) else (let m1 := sp_Msg_copyFrom σ 44 (2 + (σ 2 i.toNatClampNeg).toNatClampNeg); let m2 := sp_Wire_remove m1 i; let m3 := sp_Net_handOver m2 44; (m3, 1))
set_option maxHeartbeats 4000000 in
set_option maxRecDepth 100000 in
theorem c_Net_deliver (l : Launch) (D : va_G) (b : Nat) (ca : Nat → ClassId) {σ : rMem} {i : Int32} (hm : ¬ rv_Wire_holds σ i = 0 → rx_iM (σ (2 + (σ 2 i.toNatClampNeg).toNatClampNeg) 3) ∧ rx_t5 (σ (2 + (σ 2 i.toNatClampNeg).toNatClampNeg) 1)) : rx_C l (rx_fin D b ca) y_Net_deliver b_Net_deliver 2 (some .boolean) (rx_rm 7) [.ref (rg_A (rx_fin D b ca) 0), .int i] σ (some (.int (sp_Net_deliver σ i).2)) (sp_Net_deliver σ i).1 := by
  refine rx_of (lo := [(0, .ref (rg_A (rx_fin D b ca) 0)), (1, .int i)]) (by decide) (rx_fin_D D b ca) rfl (Nat.le_of_ble_eq_true rfl) rfl ?_
  intro p e s mm below meth c C
  refine rx_aload_n C.1 (pc := 0) d_Net_deliver_0 rfl ?_
  refine g_Net_18 D b ca C (pc := 1) d_Net_deliver_1 ?_
  refine rx_iload_n C.1 (pc := 4) d_Net_deliver_4 rfl ?_
  refine q_Net_88 D b ca C (pc := 5) d_Net_deliver_5 (c_Wire_holds l D b ca ) ⟨Nat.le_of_ble_eq_true rfl, Nat.le_of_ble_eq_true rfl⟩ ⟨Nat.zero_le _, Nat.zero_le _⟩ (Nat.le_of_ble_eq_true rfl) ?_
  refine rx_if_ne C.1 (pc := 8) d_Net_deliver_8 (tgt := 13) rfl (fun h1 => ?_) (fun h1 => ?_)
  ·
    have g1 := rh_Wire h1
    refine rx_si (fun hI => ?_)
    have hi41 := rm_in hI g1
    have hq0 := rx_rowq hI (rx_vn hi41)
    refine rx_aload_n C.1 (pc := 13) d_Net_deliver_13 rfl ?_
    refine g_Net_25 D b ca C (pc := 14) d_Net_deliver_14 ?_
    refine rx_aload_n C.1 (pc := 17) d_Net_deliver_17 rfl ?_
    refine g_Net_18 D b ca C (pc := 18) d_Net_deliver_18 ?_
    refine g_Net_91 D b ca C (pc := 21) d_Net_deliver_21 ?_
    refine rx_iload_n C.1 (pc := 24) d_Net_deliver_24 rfl ?_
    refine rx_ald_rows D b ca C (pc := 25) d_Net_deliver_25 hi41 ?_
    refine q_Net_95 D b ca C (by first | assumption | (constructor <;> omega) | omega | decide) (pc := 26) d_Net_deliver_26 (c_Msg_copyFrom l D b ca (by first | assumption | (constructor <;> omega) | omega | decide) (by first | assumption | exact rx_iM0 | exact rx_iM1 | (constructor <;> omega))) ⟨Nat.le_of_ble_eq_true rfl, Nat.le_of_ble_eq_true rfl⟩ ⟨Nat.zero_le _, Nat.zero_le _⟩ (Nat.le_of_ble_eq_true rfl) ?_
    refine rx_aload_n C.1 (pc := 29) d_Net_deliver_29 rfl ?_
    refine g_Net_18 D b ca C (pc := 30) d_Net_deliver_30 ?_
    refine rx_iload_n C.1 (pc := 33) d_Net_deliver_33 rfl ?_
    have g2 : 0 ≤ i.toInt ∧ i.toInt < (sp_Msg_copyFrom σ 44 (2 + (σ 2 i.toNatClampNeg).toNatClampNeg) 1 1).toInt := g1
    refine q_Net_99 D b ca C (pc := 34) d_Net_deliver_34 (c_Wire_remove l D b ca (by first | assumption | exact rx_iM0 | exact rx_iM1 | (constructor <;> omega))) ⟨Nat.le_of_ble_eq_true rfl, Nat.le_of_ble_eq_true rfl⟩ ⟨Nat.zero_le _, Nat.zero_le _⟩ (Nat.le_of_ble_eq_true rfl) ?_
    refine rx_aload_n C.1 (pc := 37) d_Net_deliver_37 rfl ?_
    refine rx_aload_n C.1 (pc := 38) d_Net_deliver_38 rfl ?_
    refine g_Net_25 D b ca C (pc := 39) d_Net_deliver_39 ?_
    have g3 := dl_m hI g1 (hm h1).1
    have g4 := dl_t hI g1 (hm h1).2
    refine q_Net_102 D b ca C (pc := 42) d_Net_deliver_42 (c_Net_handOver l D b ca (by first | assumption | exact rx_iM0 | exact rx_iM1 | (constructor <;> omega)) (by first | assumption | exact rx_iM0 | exact rx_iM1 | (constructor <;> omega)) (by first | assumption | exact rx_iM0 | exact rx_iM1 | (constructor <;> omega))) ⟨Nat.le_of_ble_eq_true rfl, Nat.le_of_ble_eq_true rfl⟩ ⟨Nat.zero_le _, Nat.zero_le _⟩ (Nat.le_of_ble_eq_true rfl) ?_
    refine rx_iconst C.1 (v := 1) (pc := 45) d_Net_deliver_45 (by decide) ?_
    exact rx_zret C (pc := 46) d_Net_deliver_46 (Or.inr rfl) (by unfold sp_Net_deliver; first | (simp only [if_neg h1]; done) | (simp only [if_neg h1]; rfl)) (by unfold sp_Net_deliver; first | (simp only [if_neg h1]; done) | (simp only [if_neg h1]; rfl))
  ·
    refine rx_iconst C.1 (v := 0) (pc := 11) d_Net_deliver_11 (by decide) ?_
    exact rx_zret C (pc := 12) d_Net_deliver_12 (Or.inl rfl) (by unfold sp_Net_deliver; first | (simp only [if_pos h1]; done) | (simp only [if_pos h1]; rfl)) (by unfold sp_Net_deliver; first | (simp only [if_pos h1]; done) | (simp only [if_pos h1]; rfl))

def sp_Net_drop (σ : rMem) (i : Int32) : rMem × Int32 := if (rv_Wire_holds σ i) = 0 then (σ, 0) else (let m1 := sp_Wire_remove σ i; (m1, 1))
set_option maxHeartbeats 4000000 in
set_option maxRecDepth 100000 in
theorem c_Net_drop (l : Launch) (D : va_G) (b : Nat) (ca : Nat → ClassId) {σ : rMem} {i : Int32} : rx_C l (rx_fin D b ca) y_Net_drop b_Net_drop 2 (some .boolean) (rx_rm 1) [.ref (rg_A (rx_fin D b ca) 0), .int i] σ (some (.int (sp_Net_drop σ i).2)) (sp_Net_drop σ i).1 := by
  refine rx_of (lo := [(0, .ref (rg_A (rx_fin D b ca) 0)), (1, .int i)]) (by decide) (rx_fin_D D b ca) rfl (Nat.le_of_ble_eq_true rfl) rfl ?_
  intro p e s mm below meth c C
  refine rx_aload_n C.1 (pc := 0) d_Net_drop_0 rfl ?_
  refine g_Net_18 D b ca C (pc := 1) d_Net_drop_1 ?_
  refine rx_iload_n C.1 (pc := 4) d_Net_drop_4 rfl ?_
  refine q_Net_88 D b ca C (pc := 5) d_Net_drop_5 (c_Wire_holds l D b ca ) ⟨Nat.le_of_ble_eq_true rfl, Nat.le_of_ble_eq_true rfl⟩ ⟨Nat.zero_le _, Nat.zero_le _⟩ (Nat.le_of_ble_eq_true rfl) ?_
  refine rx_if_ne C.1 (pc := 8) d_Net_drop_8 (tgt := 13) rfl (fun h1 => ?_) (fun h1 => ?_)
  ·
    have g1 := rh_Wire h1
    refine rx_aload_n C.1 (pc := 13) d_Net_drop_13 rfl ?_
    refine g_Net_18 D b ca C (pc := 14) d_Net_drop_14 ?_
    refine rx_iload_n C.1 (pc := 17) d_Net_drop_17 rfl ?_
    refine q_Net_99 D b ca C (pc := 18) d_Net_drop_18 (c_Wire_remove l D b ca (by first | assumption | exact rx_iM0 | exact rx_iM1 | (constructor <;> omega))) ⟨Nat.le_of_ble_eq_true rfl, Nat.le_of_ble_eq_true rfl⟩ ⟨Nat.zero_le _, Nat.zero_le _⟩ (Nat.le_of_ble_eq_true rfl) ?_
    refine rx_iconst C.1 (v := 1) (pc := 21) d_Net_drop_21 (by decide) ?_
    exact rx_zret C (pc := 22) d_Net_drop_22 (Or.inr rfl) (by unfold sp_Net_drop; first | (simp only [if_neg h1]; done) | (simp only [if_neg h1]; rfl)) (by unfold sp_Net_drop; first | (simp only [if_neg h1]; done) | (simp only [if_neg h1]; rfl))
  ·
    refine rx_iconst C.1 (v := 0) (pc := 11) d_Net_drop_11 (by decide) ?_
    exact rx_zret C (pc := 12) d_Net_drop_12 (Or.inl rfl) (by unfold sp_Net_drop; first | (simp only [if_pos h1]; done) | (simp only [if_pos h1]; rfl)) (by unfold sp_Net_drop; first | (simp only [if_pos h1]; done) | (simp only [if_pos h1]; rfl))

def sp_Net_duplicate (σ : rMem) (i : Int32) : rMem × Int32 := if (rv_Wire_holds σ i) = 0 then (σ, 0) else (if (rv_Wire_isFull σ) = 0 then (let m1 := (sp_Wire_nextRow σ).1; let m2 := sp_Msg_copyFrom m1 ((sp_Wire_nextRow σ).2) (2 + (m1 2 i.toNatClampNeg).toNatClampNeg); (m2, 1)) else (σ, 0))
set_option maxHeartbeats 4000000 in
set_option maxRecDepth 100000 in
theorem c_Net_duplicate (l : Launch) (D : va_G) (b : Nat) (ca : Nat → ClassId) {σ : rMem} {i : Int32} : rx_C l (rx_fin D b ca) y_Net_duplicate b_Net_duplicate 2 (some .boolean) (rx_rm 2) [.ref (rg_A (rx_fin D b ca) 0), .int i] σ (some (.int (sp_Net_duplicate σ i).2)) (sp_Net_duplicate σ i).1 := by
  refine rx_of (lo := [(0, .ref (rg_A (rx_fin D b ca) 0)), (1, .int i)]) (by decide) (rx_fin_D D b ca) rfl (Nat.le_of_ble_eq_true rfl) rfl ?_
  intro p e s mm below meth c C
  refine rx_aload_n C.1 (pc := 0) d_Net_duplicate_0 rfl ?_
  refine g_Net_18 D b ca C (pc := 1) d_Net_duplicate_1 ?_
  refine rx_iload_n C.1 (pc := 4) d_Net_duplicate_4 rfl ?_
  refine q_Net_88 D b ca C (pc := 5) d_Net_duplicate_5 (c_Wire_holds l D b ca ) ⟨Nat.le_of_ble_eq_true rfl, Nat.le_of_ble_eq_true rfl⟩ ⟨Nat.zero_le _, Nat.zero_le _⟩ (Nat.le_of_ble_eq_true rfl) ?_
  refine rx_if_eq C.1 (pc := 8) d_Net_duplicate_8 (tgt := 21) rfl (fun h1 => ?_) (fun h1 => ?_)
  ·
    refine rx_iconst C.1 (v := 0) (pc := 21) d_Net_duplicate_21 (by decide) ?_
    exact rx_zret C (pc := 22) d_Net_duplicate_22 (Or.inl rfl) (by unfold sp_Net_duplicate; first | (simp only [if_pos h1]; done) | (simp only [if_pos h1]; rfl)) (by unfold sp_Net_duplicate; first | (simp only [if_pos h1]; done) | (simp only [if_pos h1]; rfl))
  ·
    have g1 := rh_Wire h1
    refine rx_aload_n C.1 (pc := 11) d_Net_duplicate_11 rfl ?_
    refine g_Net_18 D b ca C (pc := 12) d_Net_duplicate_12 ?_
    refine q_Net_105 D b ca C (pc := 15) d_Net_duplicate_15 (c_Wire_isFull l D b ca ) ⟨Nat.le_of_ble_eq_true rfl, Nat.le_of_ble_eq_true rfl⟩ ⟨Nat.zero_le _, Nat.zero_le _⟩ (Nat.le_of_ble_eq_true rfl) ?_
    refine rx_if_eq C.1 (pc := 18) d_Net_duplicate_18 (tgt := 23) rfl (fun h2 => ?_) (fun h2 => ?_)
    ·
      refine rx_si (fun hI => ?_)
      have hi41 := rm_in hI g1
      have hq0 := rx_rowq hI (rx_vn hi41)
      refine rx_aload_n C.1 (pc := 23) d_Net_duplicate_23 rfl ?_
      refine g_Net_18 D b ca C (pc := 24) d_Net_duplicate_24 ?_
      refine q_Net_109 D b ca C (pc := 27) d_Net_duplicate_27 (c_Wire_nextRow l D b ca ) (fun hI => rq_Wire_nextRow hI) ⟨Nat.le_of_ble_eq_true rfl, Nat.le_of_ble_eq_true rfl⟩ ⟨Nat.zero_le _, Nat.zero_le _⟩ (Nat.le_of_ble_eq_true rfl) (fun hq3 => ?_)
      refine rx_aload_n C.1 (pc := 30) d_Net_duplicate_30 rfl ?_
      refine g_Net_18 D b ca C (pc := 31) d_Net_duplicate_31 ?_
      refine g_Net_91 D b ca C (pc := 34) d_Net_duplicate_34 ?_
      refine rx_iload_n C.1 (pc := 37) d_Net_duplicate_37 rfl ?_
      refine rx_ald_rows D b ca C (pc := 38) d_Net_duplicate_38 hi41 ?_
      refine rx_si (fun hI2 => ?_)
      have hq2 := rx_rowq hI2 (rx_vn hi41)
      refine q_Net_95 D b ca C (by first | assumption | (constructor <;> omega) | omega | decide) (pc := 39) d_Net_duplicate_39 (c_Msg_copyFrom l D b ca (by first | assumption | (constructor <;> omega) | omega | decide) (by first | assumption | exact rx_iM0 | exact rx_iM1 | (constructor <;> omega))) ⟨Nat.le_of_ble_eq_true rfl, Nat.le_of_ble_eq_true rfl⟩ ⟨Nat.zero_le _, Nat.zero_le _⟩ (Nat.le_of_ble_eq_true rfl) ?_
      refine rx_iconst C.1 (v := 1) (pc := 42) d_Net_duplicate_42 (by decide) ?_
      exact rx_zret C (pc := 43) d_Net_duplicate_43 (Or.inr rfl) (by unfold sp_Net_duplicate; first | (simp only [if_neg h1, if_pos h2]; done) | (simp only [if_neg h1, if_pos h2]; rfl)) (by unfold sp_Net_duplicate; first | (simp only [if_neg h1, if_pos h2]; done) | (simp only [if_neg h1, if_pos h2]; rfl))
    ·
      refine rx_iconst C.1 (v := 0) (pc := 21) d_Net_duplicate_21 (by decide) ?_
      exact rx_zret C (pc := 22) d_Net_duplicate_22 (Or.inl rfl) (by unfold sp_Net_duplicate; first | (simp only [if_neg h1, if_neg h2]; done) | (simp only [if_neg h1, if_neg h2]; rfl)) (by unfold sp_Net_duplicate; first | (simp only [if_neg h1, if_neg h2]; done) | (simp only [if_neg h1, if_neg h2]; rfl))

def sp_Net_inject (σ : rMem) (a : Int32) (m : Int32) (co : Int32) (lt : Int32) (id : Int32) (sl : Int32) : rMem × Int32 := if (rv_Net_isAgent a) = 0 then (σ, 0) else (if (rv_Net_isMobile m) = 0 then (σ, 0) else (if (rv_Net_isAgent co) = 0 then (σ, 0) else (if (rv_Net_isWithin lt 0 60) = 0 then (σ, 0) else (if (rv_Net_isWithin id 1 9999) = 0 then (σ, 0) else (if co = 0 then (if lt = 0 then (if (rv_Wire_isFull σ) = 0 then (let m5 := (sp_Wire_sendTo σ a 2 m id).1; let m6 := rx_wr m5 ((sp_Wire_sendTo σ a 2 m id).2) 5 co; let m7 := rx_wr m6 ((sp_Wire_sendTo σ a 2 m id).2) 7 lt; let m8 := rx_wr m7 ((sp_Wire_sendTo σ a 2 m id).2) 8 sl; (m8, 1)) else (σ, 0)) else (σ, 0)) else (if lt = 0 then (σ, 0) else (if (rv_Wire_isFull σ) = 0 then (let m1 := (sp_Wire_sendTo σ a 2 m id).1; let m2 := rx_wr m1 ((sp_Wire_sendTo σ a 2 m id).2) 5 co; let m3 := rx_wr m2 ((sp_Wire_sendTo σ a 2 m id).2) 7 lt; let m4 := rx_wr m3 ((sp_Wire_sendTo σ a 2 m id).2) 8 sl; (m4, 1)) else (σ, 0))))))))
set_option maxHeartbeats 4000000 in
set_option maxRecDepth 100000 in
theorem c_Net_inject (l : Launch) (D : va_G) (b : Nat) (ca : Nat → ClassId) {σ : rMem} {a : Int32} {m : Int32} {co : Int32} {lt : Int32} {id : Int32} {sl : Int32} : rx_C l (rx_fin D b ca) y_Net_inject b_Net_inject 8 (some .boolean) (rx_rm 3) [.ref (rg_A (rx_fin D b ca) 0), .int a, .int m, .int co, .int lt, .int id, .int sl] σ (some (.int (sp_Net_inject σ a m co lt id sl).2)) (sp_Net_inject σ a m co lt id sl).1 := by
  refine rx_of (lo := [(0, .ref (rg_A (rx_fin D b ca) 0)), (1, .int a), (2, .int m), (3, .int co), (4, .int lt), (5, .int id), (6, .int sl)]) (by decide) (rx_fin_D D b ca) rfl (Nat.le_of_ble_eq_true rfl) rfl ?_
  intro p e s mm below meth c C
  refine rx_iload_n C.1 (pc := 0) d_Net_inject_0 rfl ?_
  refine q_Net_113 C.1 (pc := 1) d_Net_inject_1 (c_Net_isAgent l ) ⟨Nat.le_of_ble_eq_true rfl, Nat.le_of_ble_eq_true rfl⟩ ⟨Nat.zero_le _, Nat.zero_le _⟩ (Nat.le_of_ble_eq_true rfl) ?_
  refine rx_if_eq C.1 (pc := 4) d_Net_inject_4 (tgt := 21) rfl (fun h1 => ?_) (fun h1 => ?_)
  ·
    refine rx_iconst C.1 (v := 0) (pc := 21) d_Net_inject_21 (by decide) ?_
    exact rx_zret C (pc := 22) d_Net_inject_22 (Or.inl rfl) (by unfold sp_Net_inject; first | (simp only [if_pos h1]; done) | (simp only [if_pos h1]; rfl)) (by unfold sp_Net_inject; first | (simp only [if_pos h1]; done) | (simp only [if_pos h1]; rfl))
  ·
    refine rx_iload_n C.1 (pc := 7) d_Net_inject_7 rfl ?_
    refine q_Net_63 C.1 (pc := 8) d_Net_inject_8 (c_Net_isMobile l ) ⟨Nat.le_of_ble_eq_true rfl, Nat.le_of_ble_eq_true rfl⟩ ⟨Nat.zero_le _, Nat.zero_le _⟩ (Nat.le_of_ble_eq_true rfl) ?_
    refine rx_if_eq C.1 (pc := 11) d_Net_inject_11 (tgt := 21) rfl (fun h2 => ?_) (fun h2 => ?_)
    ·
      refine rx_iconst C.1 (v := 0) (pc := 21) d_Net_inject_21 (by decide) ?_
      exact rx_zret C (pc := 22) d_Net_inject_22 (Or.inl rfl) (by unfold sp_Net_inject; first | (simp only [if_neg h1, if_pos h2]; done) | (simp only [if_neg h1, if_pos h2]; rfl)) (by unfold sp_Net_inject; first | (simp only [if_neg h1, if_pos h2]; done) | (simp only [if_neg h1, if_pos h2]; rfl))
    ·
      have g2 := rm_Net h2
      have j2 := rx_j2 g2
      refine rx_iload_n C.1 (pc := 14) d_Net_inject_14 rfl ?_
      refine q_Net_113 C.1 (pc := 15) d_Net_inject_15 (c_Net_isAgent l ) ⟨Nat.le_of_ble_eq_true rfl, Nat.le_of_ble_eq_true rfl⟩ ⟨Nat.zero_le _, Nat.zero_le _⟩ (Nat.le_of_ble_eq_true rfl) ?_
      refine rx_if_ne C.1 (pc := 18) d_Net_inject_18 (tgt := 23) rfl (fun h3 => ?_) (fun h3 => ?_)
      ·
        refine rx_iload C.1 (pc := 23) d_Net_inject_23 rfl ?_
        refine rx_iconst C.1 (v := 0) (pc := 25) d_Net_inject_25 (by decide) ?_
        refine rx_bipush C.1 (v := 60) (pc := 26) d_Net_inject_26 (by decide) ?_
        refine q_Net_11 C.1 (pc := 28) d_Net_inject_28 (c_Net_isWithin l ) ⟨Nat.le_of_ble_eq_true rfl, Nat.le_of_ble_eq_true rfl⟩ ⟨Nat.zero_le _, Nat.zero_le _⟩ (Nat.le_of_ble_eq_true rfl) ?_
        refine rx_if_eq C.1 (pc := 31) d_Net_inject_31 (tgt := 46) rfl (fun h4 => ?_) (fun h4 => ?_)
        ·
          refine rx_iconst C.1 (v := 0) (pc := 46) d_Net_inject_46 (by decide) ?_
          exact rx_zret C (pc := 47) d_Net_inject_47 (Or.inl rfl) (by unfold sp_Net_inject; first | (simp only [if_neg h1, if_neg h2, if_neg h3, if_pos h4]; done) | (simp only [if_neg h1, if_neg h2, if_neg h3, if_pos h4]; rfl)) (by unfold sp_Net_inject; first | (simp only [if_neg h1, if_neg h2, if_neg h3, if_pos h4]; done) | (simp only [if_neg h1, if_neg h2, if_neg h3, if_pos h4]; rfl))
        ·
          refine rx_iload C.1 (pc := 34) d_Net_inject_34 rfl ?_
          refine rx_iconst C.1 (v := 1) (pc := 36) d_Net_inject_36 (by decide) ?_
          refine rx_sipush C.1 (v := 9999) (pc := 37) d_Net_inject_37 (by decide) ?_
          refine q_Net_11 C.1 (pc := 40) d_Net_inject_40 (c_Net_isWithin l ) ⟨Nat.le_of_ble_eq_true rfl, Nat.le_of_ble_eq_true rfl⟩ ⟨Nat.zero_le _, Nat.zero_le _⟩ (Nat.le_of_ble_eq_true rfl) ?_
          refine rx_if_ne C.1 (pc := 43) d_Net_inject_43 (tgt := 48) rfl (fun h5 => ?_) (fun h5 => ?_)
          ·
            refine rx_iload_n C.1 (pc := 48) d_Net_inject_48 rfl ?_
            refine rx_if_ne C.1 (pc := 49) d_Net_inject_49 (tgt := 56) rfl (fun h6 => ?_) (fun h6 => ?_)
            ·
              refine rx_iconst C.1 (v := 0) (pc := 56) d_Net_inject_56 (by decide) ?_
              refine rx_iload C.1 (pc := 57) d_Net_inject_57 rfl ?_
              refine rx_if_ne C.1 (pc := 59) d_Net_inject_59 (tgt := 66) rfl (fun h7 => ?_) (fun h7 => ?_)
              ·
                refine rx_iconst C.1 (v := 0) (pc := 66) d_Net_inject_66 (by decide) ?_
                refine rx_icmp_ne C.1 (pc := 67) d_Net_inject_67 (tgt := 80) rfl (fun h9 => absurd h9 (by decide)) (fun _ => ?_)
                refine rx_aload_n C.1 (pc := 70) d_Net_inject_70 rfl ?_
                refine g_Net_18 D b ca C (pc := 71) d_Net_inject_71 ?_
                refine q_Net_105 D b ca C (pc := 74) d_Net_inject_74 (c_Wire_isFull l D b ca ) ⟨Nat.le_of_ble_eq_true rfl, Nat.le_of_ble_eq_true rfl⟩ ⟨Nat.zero_le _, Nat.zero_le _⟩ (Nat.le_of_ble_eq_true rfl) ?_
                refine rx_if_eq C.1 (pc := 77) d_Net_inject_77 (tgt := 82) rfl (fun h8 => ?_) (fun h8 => ?_)
                ·
                  refine rx_aload_n C.1 (pc := 82) d_Net_inject_82 rfl ?_
                  refine g_Net_18 D b ca C (pc := 83) d_Net_inject_83 ?_
                  refine rx_iload_n C.1 (pc := 86) d_Net_inject_86 rfl ?_
                  refine rx_iconst C.1 (v := 2) (pc := 87) d_Net_inject_87 (by decide) ?_
                  refine rx_iload_n C.1 (pc := 88) d_Net_inject_88 rfl ?_
                  refine rx_iload C.1 (pc := 89) d_Net_inject_89 rfl ?_
                  refine q_Net_116 D b ca C (pc := 91) d_Net_inject_91 (c_Wire_sendTo l D b ca ) (fun hI => rq_Wire_sendTo hI) ⟨Nat.le_of_ble_eq_true rfl, Nat.le_of_ble_eq_true rfl⟩ ⟨Nat.zero_le _, Nat.zero_le _⟩ (Nat.le_of_ble_eq_true rfl) (fun hq2 => ?_)
                  refine rx_astore C.1 (pc := 94) d_Net_inject_94 (by decide) ?_
                  refine rx_aload C.1 (pc := 96) d_Net_inject_96 rfl ?_
                  refine rx_iload_n C.1 (pc := 98) d_Net_inject_98 rfl ?_
                  refine p_Net_120 D b ca C (by first | assumption | (constructor <;> omega) | omega | decide) (pc := 99) d_Net_inject_99 ?_
                  refine rx_aload C.1 (pc := 102) d_Net_inject_102 rfl ?_
                  refine rx_iload C.1 (pc := 104) d_Net_inject_104 rfl ?_
                  refine p_Net_123 D b ca C (by first | assumption | (constructor <;> omega) | omega | decide) (pc := 106) d_Net_inject_106 ?_
                  refine rx_aload C.1 (pc := 109) d_Net_inject_109 rfl ?_
                  refine rx_iload C.1 (pc := 111) d_Net_inject_111 rfl ?_
                  refine p_Net_126 D b ca C (by first | assumption | (constructor <;> omega) | omega | decide) (pc := 113) d_Net_inject_113 ?_
                  refine rx_iconst C.1 (v := 1) (pc := 116) d_Net_inject_116 (by decide) ?_
                  exact rx_zret C (pc := 117) d_Net_inject_117 (Or.inr rfl) (by unfold sp_Net_inject; first | (simp only [if_neg h1, if_neg h2, if_neg h3, if_neg h4, if_neg h5, if_neg h6, if_neg h7, if_pos h8]; done) | (simp only [if_neg h1, if_neg h2, if_neg h3, if_neg h4, if_neg h5, if_neg h6, if_neg h7, if_pos h8]; rfl)) (by unfold sp_Net_inject; first | (simp only [if_neg h1, if_neg h2, if_neg h3, if_neg h4, if_neg h5, if_neg h6, if_neg h7, if_pos h8]; done) | (simp only [if_neg h1, if_neg h2, if_neg h3, if_neg h4, if_neg h5, if_neg h6, if_neg h7, if_pos h8]; rfl))
                ·
                  refine rx_iconst C.1 (v := 0) (pc := 80) d_Net_inject_80 (by decide) ?_
                  exact rx_zret C (pc := 81) d_Net_inject_81 (Or.inl rfl) (by unfold sp_Net_inject; first | (simp only [if_neg h1, if_neg h2, if_neg h3, if_neg h4, if_neg h5, if_neg h6, if_neg h7, if_neg h8]; done) | (simp only [if_neg h1, if_neg h2, if_neg h3, if_neg h4, if_neg h5, if_neg h6, if_neg h7, if_neg h8]; rfl)) (by unfold sp_Net_inject; first | (simp only [if_neg h1, if_neg h2, if_neg h3, if_neg h4, if_neg h5, if_neg h6, if_neg h7, if_neg h8]; done) | (simp only [if_neg h1, if_neg h2, if_neg h3, if_neg h4, if_neg h5, if_neg h6, if_neg h7, if_neg h8]; rfl))
              ·
                refine rx_iconst C.1 (v := 1) (pc := 62) d_Net_inject_62 (by decide) ?_
                refine rx_goto C.1 (pc := 63) d_Net_inject_63 (tgt := 67) rfl ?_
                refine rx_icmp_ne C.1 (pc := 67) d_Net_inject_67 (tgt := 80) rfl (fun _ => ?_) (fun h9 => absurd h9 (by decide))
                refine rx_iconst C.1 (v := 0) (pc := 80) d_Net_inject_80 (by decide) ?_
                exact rx_zret C (pc := 81) d_Net_inject_81 (Or.inl rfl) (by unfold sp_Net_inject; first | (simp only [if_neg h1, if_neg h2, if_neg h3, if_neg h4, if_neg h5, if_neg h6, if_pos h7]; done) | (simp only [if_neg h1, if_neg h2, if_neg h3, if_neg h4, if_neg h5, if_neg h6, if_pos h7]; rfl)) (by unfold sp_Net_inject; first | (simp only [if_neg h1, if_neg h2, if_neg h3, if_neg h4, if_neg h5, if_neg h6, if_pos h7]; done) | (simp only [if_neg h1, if_neg h2, if_neg h3, if_neg h4, if_neg h5, if_neg h6, if_pos h7]; rfl))
            ·
              refine rx_iconst C.1 (v := 1) (pc := 52) d_Net_inject_52 (by decide) ?_
              refine rx_goto C.1 (pc := 53) d_Net_inject_53 (tgt := 57) rfl ?_
              refine rx_iload C.1 (pc := 57) d_Net_inject_57 rfl ?_
              refine rx_if_ne C.1 (pc := 59) d_Net_inject_59 (tgt := 66) rfl (fun h9 => ?_) (fun h9 => ?_)
              ·
                refine rx_iconst C.1 (v := 0) (pc := 66) d_Net_inject_66 (by decide) ?_
                refine rx_icmp_ne C.1 (pc := 67) d_Net_inject_67 (tgt := 80) rfl (fun _ => ?_) (fun h9 => absurd h9 (by decide))
                refine rx_iconst C.1 (v := 0) (pc := 80) d_Net_inject_80 (by decide) ?_
                exact rx_zret C (pc := 81) d_Net_inject_81 (Or.inl rfl) (by unfold sp_Net_inject; first | (simp only [if_neg h1, if_neg h2, if_neg h3, if_neg h4, if_neg h5, if_pos h6, if_neg h9]; done) | (simp only [if_neg h1, if_neg h2, if_neg h3, if_neg h4, if_neg h5, if_pos h6, if_neg h9]; rfl)) (by unfold sp_Net_inject; first | (simp only [if_neg h1, if_neg h2, if_neg h3, if_neg h4, if_neg h5, if_pos h6, if_neg h9]; done) | (simp only [if_neg h1, if_neg h2, if_neg h3, if_neg h4, if_neg h5, if_pos h6, if_neg h9]; rfl))
              ·
                refine rx_iconst C.1 (v := 1) (pc := 62) d_Net_inject_62 (by decide) ?_
                refine rx_goto C.1 (pc := 63) d_Net_inject_63 (tgt := 67) rfl ?_
                refine rx_icmp_ne C.1 (pc := 67) d_Net_inject_67 (tgt := 80) rfl (fun h9 => absurd h9 (by decide)) (fun _ => ?_)
                refine rx_aload_n C.1 (pc := 70) d_Net_inject_70 rfl ?_
                refine g_Net_18 D b ca C (pc := 71) d_Net_inject_71 ?_
                refine q_Net_105 D b ca C (pc := 74) d_Net_inject_74 (c_Wire_isFull l D b ca ) ⟨Nat.le_of_ble_eq_true rfl, Nat.le_of_ble_eq_true rfl⟩ ⟨Nat.zero_le _, Nat.zero_le _⟩ (Nat.le_of_ble_eq_true rfl) ?_
                refine rx_if_eq C.1 (pc := 77) d_Net_inject_77 (tgt := 82) rfl (fun h10 => ?_) (fun h10 => ?_)
                ·
                  refine rx_aload_n C.1 (pc := 82) d_Net_inject_82 rfl ?_
                  refine g_Net_18 D b ca C (pc := 83) d_Net_inject_83 ?_
                  refine rx_iload_n C.1 (pc := 86) d_Net_inject_86 rfl ?_
                  refine rx_iconst C.1 (v := 2) (pc := 87) d_Net_inject_87 (by decide) ?_
                  refine rx_iload_n C.1 (pc := 88) d_Net_inject_88 rfl ?_
                  refine rx_iload C.1 (pc := 89) d_Net_inject_89 rfl ?_
                  refine q_Net_116 D b ca C (pc := 91) d_Net_inject_91 (c_Wire_sendTo l D b ca ) (fun hI => rq_Wire_sendTo hI) ⟨Nat.le_of_ble_eq_true rfl, Nat.le_of_ble_eq_true rfl⟩ ⟨Nat.zero_le _, Nat.zero_le _⟩ (Nat.le_of_ble_eq_true rfl) (fun hq4 => ?_)
                  refine rx_astore C.1 (pc := 94) d_Net_inject_94 (by decide) ?_
                  refine rx_aload C.1 (pc := 96) d_Net_inject_96 rfl ?_
                  refine rx_iload_n C.1 (pc := 98) d_Net_inject_98 rfl ?_
                  refine p_Net_120 D b ca C (by first | assumption | (constructor <;> omega) | omega | decide) (pc := 99) d_Net_inject_99 ?_
                  refine rx_aload C.1 (pc := 102) d_Net_inject_102 rfl ?_
                  refine rx_iload C.1 (pc := 104) d_Net_inject_104 rfl ?_
                  refine p_Net_123 D b ca C (by first | assumption | (constructor <;> omega) | omega | decide) (pc := 106) d_Net_inject_106 ?_
                  refine rx_aload C.1 (pc := 109) d_Net_inject_109 rfl ?_
                  refine rx_iload C.1 (pc := 111) d_Net_inject_111 rfl ?_
                  refine p_Net_126 D b ca C (by first | assumption | (constructor <;> omega) | omega | decide) (pc := 113) d_Net_inject_113 ?_
                  refine rx_iconst C.1 (v := 1) (pc := 116) d_Net_inject_116 (by decide) ?_
                  exact rx_zret C (pc := 117) d_Net_inject_117 (Or.inr rfl) (by unfold sp_Net_inject; first | (simp only [if_neg h1, if_neg h2, if_neg h3, if_neg h4, if_neg h5, if_pos h6, if_pos h9, if_pos h10]; done) | (simp only [if_neg h1, if_neg h2, if_neg h3, if_neg h4, if_neg h5, if_pos h6, if_pos h9, if_pos h10]; rfl)) (by unfold sp_Net_inject; first | (simp only [if_neg h1, if_neg h2, if_neg h3, if_neg h4, if_neg h5, if_pos h6, if_pos h9, if_pos h10]; done) | (simp only [if_neg h1, if_neg h2, if_neg h3, if_neg h4, if_neg h5, if_pos h6, if_pos h9, if_pos h10]; rfl))
                ·
                  refine rx_iconst C.1 (v := 0) (pc := 80) d_Net_inject_80 (by decide) ?_
                  exact rx_zret C (pc := 81) d_Net_inject_81 (Or.inl rfl) (by unfold sp_Net_inject; first | (simp only [if_neg h1, if_neg h2, if_neg h3, if_neg h4, if_neg h5, if_pos h6, if_pos h9, if_neg h10]; done) | (simp only [if_neg h1, if_neg h2, if_neg h3, if_neg h4, if_neg h5, if_pos h6, if_pos h9, if_neg h10]; rfl)) (by unfold sp_Net_inject; first | (simp only [if_neg h1, if_neg h2, if_neg h3, if_neg h4, if_neg h5, if_pos h6, if_pos h9, if_neg h10]; done) | (simp only [if_neg h1, if_neg h2, if_neg h3, if_neg h4, if_neg h5, if_pos h6, if_pos h9, if_neg h10]; rfl))
          ·
            refine rx_iconst C.1 (v := 0) (pc := 46) d_Net_inject_46 (by decide) ?_
            exact rx_zret C (pc := 47) d_Net_inject_47 (Or.inl rfl) (by unfold sp_Net_inject; first | (simp only [if_neg h1, if_neg h2, if_neg h3, if_neg h4, if_pos h5]; done) | (simp only [if_neg h1, if_neg h2, if_neg h3, if_neg h4, if_pos h5]; rfl)) (by unfold sp_Net_inject; first | (simp only [if_neg h1, if_neg h2, if_neg h3, if_neg h4, if_pos h5]; done) | (simp only [if_neg h1, if_neg h2, if_neg h3, if_neg h4, if_pos h5]; rfl))
      ·
        refine rx_iconst C.1 (v := 0) (pc := 21) d_Net_inject_21 (by decide) ?_
        exact rx_zret C (pc := 22) d_Net_inject_22 (Or.inl rfl) (by unfold sp_Net_inject; first | (simp only [if_neg h1, if_neg h2, if_pos h3]; done) | (simp only [if_neg h1, if_neg h2, if_pos h3]; rfl)) (by unfold sp_Net_inject; first | (simp only [if_neg h1, if_neg h2, if_pos h3]; done) | (simp only [if_neg h1, if_neg h2, if_pos h3]; rfl))

def rv_Net_messages (σ : rMem)  : Int32 := (σ 1 1)
set_option maxHeartbeats 4000000 in
set_option maxRecDepth 100000 in
theorem c_Net_messages (l : Launch) (D : va_G) (b : Nat) (ca : Nat → ClassId) {σ : rMem}  : rx_C l (rx_fin D b ca) y_Net_messages b_Net_messages 1 (some .int) (rx_rm 0) [.ref (rg_A (rx_fin D b ca) 0)] σ (some (.int (rv_Net_messages σ))) σ := by
  refine rx_of (lo := [(0, .ref (rg_A (rx_fin D b ca) 0))]) (by decide) (rx_fin_D D b ca) rfl (Nat.le_of_ble_eq_true rfl) rfl ?_
  intro p e s mm below meth c C
  refine rx_aload_n C.1 (pc := 0) d_Net_messages_0 rfl ?_
  refine g_Net_18 D b ca C (pc := 1) d_Net_messages_1 ?_
  refine g_Net_129 D b ca C (pc := 4) d_Net_messages_4 ?_
  exact rx_iret C (pc := 7) d_Net_messages_7 (by first | rfl | (unfold rv_Net_messages; rfl)) rfl

def rv_Net_message (σ : rMem) (i : Int32) : Int32 := if (rv_Wire_holds σ i) = 0 then (-1) else (rv_Msg_summary σ (2 + (σ 2 i.toNatClampNeg).toNatClampNeg))
set_option maxHeartbeats 4000000 in
set_option maxRecDepth 100000 in
theorem c_Net_message (l : Launch) (D : va_G) (b : Nat) (ca : Nat → ClassId) {σ : rMem} {i : Int32} : rx_C l (rx_fin D b ca) y_Net_message b_Net_message 2 (some .int) (rx_rm 1) [.ref (rg_A (rx_fin D b ca) 0), .int i] σ (some (.int (rv_Net_message σ i))) σ := by
  refine rx_of (lo := [(0, .ref (rg_A (rx_fin D b ca) 0)), (1, .int i)]) (by decide) (rx_fin_D D b ca) rfl (Nat.le_of_ble_eq_true rfl) rfl ?_
  intro p e s mm below meth c C
  refine rx_aload_n C.1 (pc := 0) d_Net_message_0 rfl ?_
  refine g_Net_18 D b ca C (pc := 1) d_Net_message_1 ?_
  refine rx_iload_n C.1 (pc := 4) d_Net_message_4 rfl ?_
  refine q_Net_88 D b ca C (pc := 5) d_Net_message_5 (c_Wire_holds l D b ca ) ⟨Nat.le_of_ble_eq_true rfl, Nat.le_of_ble_eq_true rfl⟩ ⟨Nat.zero_le _, Nat.zero_le _⟩ (Nat.le_of_ble_eq_true rfl) ?_
  refine rx_if_eq C.1 (pc := 8) d_Net_message_8 (tgt := 26) rfl (fun h1 => ?_) (fun h1 => ?_)
  ·
    refine rx_iconst C.1 (v := (-1)) (pc := 26) d_Net_message_26 (by decide) ?_
    exact rx_iret C (pc := 27) d_Net_message_27 (by unfold rv_Net_message; first | (simp only [if_pos h1]; done) | (simp only [if_pos h1]; rfl)) rfl
  ·
    have g1 := rh_Wire h1
    refine rx_si (fun hI => ?_)
    have hi41 := rm_in hI g1
    have hq0 := rx_rowq hI (rx_vn hi41)
    refine rx_aload_n C.1 (pc := 11) d_Net_message_11 rfl ?_
    refine g_Net_18 D b ca C (pc := 12) d_Net_message_12 ?_
    refine g_Net_91 D b ca C (pc := 15) d_Net_message_15 ?_
    refine rx_iload_n C.1 (pc := 18) d_Net_message_18 rfl ?_
    refine rx_ald_rows D b ca C (pc := 19) d_Net_message_19 hi41 ?_
    refine q_Net_132 D b ca C (by first | assumption | (constructor <;> omega) | omega | decide) (pc := 20) d_Net_message_20 (c_Msg_summary l D b ca (by first | assumption | (constructor <;> omega) | omega | decide) ) ⟨Nat.le_of_ble_eq_true rfl, Nat.le_of_ble_eq_true rfl⟩ ⟨Nat.zero_le _, Nat.zero_le _⟩ (Nat.le_of_ble_eq_true rfl) ?_
    refine rx_goto C.1 (pc := 23) d_Net_message_23 (tgt := 27) rfl ?_
    exact rx_iret C (pc := 27) d_Net_message_27 (by unfold rv_Net_message; first | (simp only [if_neg h1]; done) | (simp only [if_neg h1]; rfl)) rfl

def rv_Net_place (σ : rMem) (m : Int32) : Int32 := if (rv_Net_isMobile m) = 0 then (-1) else (σ (46 + m.toNatClampNeg) 4)
set_option maxHeartbeats 4000000 in
set_option maxRecDepth 100000 in
theorem c_Net_place (l : Launch) (D : va_G) (b : Nat) (ca : Nat → ClassId) {σ : rMem} {m : Int32} : rx_C l (rx_fin D b ca) y_Net_place b_Net_place 2 (some .int) (rx_rm 2) [.ref (rg_A (rx_fin D b ca) 0), .int m] σ (some (.int (rv_Net_place σ m))) σ := by
  refine rx_of (lo := [(0, .ref (rg_A (rx_fin D b ca) 0)), (1, .int m)]) (by decide) (rx_fin_D D b ca) rfl (Nat.le_of_ble_eq_true rfl) rfl ?_
  intro p e s mm below meth c C
  refine rx_iload_n C.1 (pc := 0) d_Net_place_0 rfl ?_
  refine q_Net_63 C.1 (pc := 1) d_Net_place_1 (c_Net_isMobile l ) ⟨Nat.le_of_ble_eq_true rfl, Nat.le_of_ble_eq_true rfl⟩ ⟨Nat.zero_le _, Nat.zero_le _⟩ (Nat.le_of_ble_eq_true rfl) ?_
  refine rx_if_eq C.1 (pc := 4) d_Net_place_4 (tgt := 19) rfl (fun h1 => ?_) (fun h1 => ?_)
  ·
    refine rx_iconst C.1 (v := (-1)) (pc := 19) d_Net_place_19 (by decide) ?_
    exact rx_iret C (pc := 20) d_Net_place_20 (by unfold rv_Net_place; first | (simp only [if_pos h1]; done) | (simp only [if_pos h1]; rfl)) rfl
  ·
    have g1 := rm_Net h1
    have j1 := rx_j2 g1
    have hj := rx_j2 g1
    refine rx_aload_n C.1 (pc := 7) d_Net_place_7 rfl ?_
    refine g_Net_31 D b ca C (pc := 8) d_Net_place_8 ?_
    refine rx_iload_n C.1 (pc := 11) d_Net_place_11 rfl ?_
    refine rx_ald_mobs D b ca C (pc := 12) d_Net_place_12 (by first | assumption | exact rx_in2 (by assumption) | exact rx_v02 | exact rx_v12 | exact vp_in_iff.mpr (by decide)) ?_
    refine g_Net_75 D b ca C (by first | assumption | (constructor <;> omega) | omega | decide) (pc := 13) d_Net_place_13 ?_
    refine rx_goto C.1 (pc := 16) d_Net_place_16 (tgt := 20) rfl ?_
    exact rx_iret C (pc := 20) d_Net_place_20 (by unfold rv_Net_place; first | (simp only [if_neg h1]; done) | (simp only [if_neg h1]; rfl)) rfl

def rv_Net_registered (σ : rMem) (m : Int32) : Int32 := if (rv_Net_isMobile m) = 0 then (-1) else (σ (46 + m.toNatClampNeg) 6)
set_option maxHeartbeats 4000000 in
set_option maxRecDepth 100000 in
theorem c_Net_registered (l : Launch) (D : va_G) (b : Nat) (ca : Nat → ClassId) {σ : rMem} {m : Int32} : rx_C l (rx_fin D b ca) y_Net_registered b_Net_registered 2 (some .int) (rx_rm 2) [.ref (rg_A (rx_fin D b ca) 0), .int m] σ (some (.int (rv_Net_registered σ m))) σ := by
  refine rx_of (lo := [(0, .ref (rg_A (rx_fin D b ca) 0)), (1, .int m)]) (by decide) (rx_fin_D D b ca) rfl (Nat.le_of_ble_eq_true rfl) rfl ?_
  intro p e s mm below meth c C
  refine rx_iload_n C.1 (pc := 0) d_Net_registered_0 rfl ?_
  refine q_Net_63 C.1 (pc := 1) d_Net_registered_1 (c_Net_isMobile l ) ⟨Nat.le_of_ble_eq_true rfl, Nat.le_of_ble_eq_true rfl⟩ ⟨Nat.zero_le _, Nat.zero_le _⟩ (Nat.le_of_ble_eq_true rfl) ?_
  refine rx_if_eq C.1 (pc := 4) d_Net_registered_4 (tgt := 19) rfl (fun h1 => ?_) (fun h1 => ?_)
  ·
    refine rx_iconst C.1 (v := (-1)) (pc := 19) d_Net_registered_19 (by decide) ?_
    exact rx_iret C (pc := 20) d_Net_registered_20 (by unfold rv_Net_registered; first | (simp only [if_pos h1]; done) | (simp only [if_pos h1]; rfl)) rfl
  ·
    have g1 := rm_Net h1
    have j1 := rx_j2 g1
    have hj := rx_j2 g1
    refine rx_aload_n C.1 (pc := 7) d_Net_registered_7 rfl ?_
    refine g_Net_31 D b ca C (pc := 8) d_Net_registered_8 ?_
    refine rx_iload_n C.1 (pc := 11) d_Net_registered_11 rfl ?_
    refine rx_ald_mobs D b ca C (pc := 12) d_Net_registered_12 (by first | assumption | exact rx_in2 (by assumption) | exact rx_v02 | exact rx_v12 | exact vp_in_iff.mpr (by decide)) ?_
    refine g_Net_136 D b ca C (by first | assumption | (constructor <;> omega) | omega | decide) (pc := 13) d_Net_registered_13 ?_
    refine rx_goto C.1 (pc := 16) d_Net_registered_16 (tgt := 20) rfl ?_
    exact rx_iret C (pc := 20) d_Net_registered_20 (by unfold rv_Net_registered; first | (simp only [if_neg h1]; done) | (simp only [if_neg h1]; rfl)) rfl

def rv_Net_open (σ : rMem) (m : Int32) : Int32 := if (rv_Net_isMobile m) = 0 then 0 else (σ (46 + m.toNatClampNeg) 10)
set_option maxHeartbeats 4000000 in
set_option maxRecDepth 100000 in
theorem c_Net_open (l : Launch) (D : va_G) (b : Nat) (ca : Nat → ClassId) {σ : rMem} {m : Int32} : rx_C l (rx_fin D b ca) y_Net_open b_Net_open 2 (some .int) (rx_rm 2) [.ref (rg_A (rx_fin D b ca) 0), .int m] σ (some (.int (rv_Net_open σ m))) σ := by
  refine rx_of (lo := [(0, .ref (rg_A (rx_fin D b ca) 0)), (1, .int m)]) (by decide) (rx_fin_D D b ca) rfl (Nat.le_of_ble_eq_true rfl) rfl ?_
  intro p e s mm below meth c C
  refine rx_iload_n C.1 (pc := 0) d_Net_open_0 rfl ?_
  refine q_Net_63 C.1 (pc := 1) d_Net_open_1 (c_Net_isMobile l ) ⟨Nat.le_of_ble_eq_true rfl, Nat.le_of_ble_eq_true rfl⟩ ⟨Nat.zero_le _, Nat.zero_le _⟩ (Nat.le_of_ble_eq_true rfl) ?_
  refine rx_if_eq C.1 (pc := 4) d_Net_open_4 (tgt := 19) rfl (fun h1 => ?_) (fun h1 => ?_)
  ·
    refine rx_iconst C.1 (v := 0) (pc := 19) d_Net_open_19 (by decide) ?_
    exact rx_iret C (pc := 20) d_Net_open_20 (by unfold rv_Net_open; first | (simp only [if_pos h1]; done) | (simp only [if_pos h1]; rfl)) rfl
  ·
    have g1 := rm_Net h1
    have j1 := rx_j2 g1
    have hj := rx_j2 g1
    refine rx_aload_n C.1 (pc := 7) d_Net_open_7 rfl ?_
    refine g_Net_31 D b ca C (pc := 8) d_Net_open_8 ?_
    refine rx_iload_n C.1 (pc := 11) d_Net_open_11 rfl ?_
    refine rx_ald_mobs D b ca C (pc := 12) d_Net_open_12 (by first | assumption | exact rx_in2 (by assumption) | exact rx_v02 | exact rx_v12 | exact vp_in_iff.mpr (by decide)) ?_
    refine g_Net_139 D b ca C (by first | assumption | (constructor <;> omega) | omega | decide) (pc := 13) d_Net_open_13 ?_
    refine rx_goto C.1 (pc := 16) d_Net_open_16 (tgt := 20) rfl ?_
    exact rx_iret C (pc := 20) d_Net_open_20 (by unfold rv_Net_open; first | (simp only [if_neg h1]; done) | (simp only [if_neg h1]; rfl)) rfl

def rv_Net_binding (σ : rMem) (m : Int32) : Int32 := if (rv_Net_isMobile m) = 0 then 0 else (if (rv_Home_isBound σ m) = 0 then 0 else (((100 * (σ 51 m.toNatClampNeg)) + (σ 52 m.toNatClampNeg)) - (σ 1 2)))
set_option maxHeartbeats 4000000 in
set_option maxRecDepth 100000 in
theorem c_Net_binding (l : Launch) (D : va_G) (b : Nat) (ca : Nat → ClassId) {σ : rMem} {m : Int32} : rx_C l (rx_fin D b ca) y_Net_binding b_Net_binding 2 (some .int) (rx_rm 2) [.ref (rg_A (rx_fin D b ca) 0), .int m] σ (some (.int (rv_Net_binding σ m))) σ := by
  refine rx_of (lo := [(0, .ref (rg_A (rx_fin D b ca) 0)), (1, .int m)]) (by decide) (rx_fin_D D b ca) rfl (Nat.le_of_ble_eq_true rfl) rfl ?_
  intro p e s mm below meth c C
  refine rx_iload_n C.1 (pc := 0) d_Net_binding_0 rfl ?_
  refine q_Net_63 C.1 (pc := 1) d_Net_binding_1 (c_Net_isMobile l ) ⟨Nat.le_of_ble_eq_true rfl, Nat.le_of_ble_eq_true rfl⟩ ⟨Nat.zero_le _, Nat.zero_le _⟩ (Nat.le_of_ble_eq_true rfl) ?_
  refine rx_if_eq C.1 (pc := 4) d_Net_binding_4 (tgt := 18) rfl (fun h1 => ?_) (fun h1 => ?_)
  ·
    refine rx_iconst C.1 (v := 0) (pc := 18) d_Net_binding_18 (by decide) ?_
    exact rx_iret C (pc := 19) d_Net_binding_19 (by unfold rv_Net_binding; first | (simp only [if_pos h1]; done) | (simp only [if_pos h1]; rfl)) rfl
  ·
    have g1 := rm_Net h1
    have j1 := rx_j2 g1
    refine rx_aload_n C.1 (pc := 7) d_Net_binding_7 rfl ?_
    refine g_Net_43 D b ca C (pc := 8) d_Net_binding_8 ?_
    refine rx_iload_n C.1 (pc := 11) d_Net_binding_11 rfl ?_
    refine q_Net_142 D b ca C (pc := 12) d_Net_binding_12 (c_Home_isBound l D b ca (by first | assumption | exact rx_iM0 | exact rx_iM1 | (constructor <;> omega))) ⟨Nat.le_of_ble_eq_true rfl, Nat.le_of_ble_eq_true rfl⟩ ⟨Nat.zero_le _, Nat.zero_le _⟩ (Nat.le_of_ble_eq_true rfl) ?_
    refine rx_if_ne C.1 (pc := 15) d_Net_binding_15 (tgt := 20) rfl (fun h2 => ?_) (fun h2 => ?_)
    ·
      refine rx_bipush C.1 (v := 100) (pc := 20) d_Net_binding_20 (by decide) ?_
      refine rx_aload_n C.1 (pc := 22) d_Net_binding_22 rfl ?_
      refine g_Net_43 D b ca C (pc := 23) d_Net_binding_23 ?_
      refine g_Net_145 D b ca C (pc := 26) d_Net_binding_26 ?_
      refine rx_iload_n C.1 (pc := 29) d_Net_binding_29 rfl ?_
      refine rx_iald C (i := 51) (n := 2) (pc := 30) d_Net_binding_30 (rx_lt (by decide)) rfl (by first | assumption | exact rx_in2 (by assumption) | exact rx_v02 | exact rx_v12 | exact vp_in_iff.mpr (by decide)) ?_
      refine rx_imul C.1 (pc := 31) d_Net_binding_31 ?_
      refine rx_aload_n C.1 (pc := 32) d_Net_binding_32 rfl ?_
      refine g_Net_43 D b ca C (pc := 33) d_Net_binding_33 ?_
      refine g_Net_147 D b ca C (pc := 36) d_Net_binding_36 ?_
      refine rx_iload_n C.1 (pc := 39) d_Net_binding_39 rfl ?_
      refine rx_iald C (i := 52) (n := 2) (pc := 40) d_Net_binding_40 (rx_lt (by decide)) rfl (by first | assumption | exact rx_in2 (by assumption) | exact rx_v02 | exact rx_v12 | exact vp_in_iff.mpr (by decide)) ?_
      refine rx_iadd C.1 (pc := 41) d_Net_binding_41 ?_
      refine rx_aload_n C.1 (pc := 42) d_Net_binding_42 rfl ?_
      refine g_Net_18 D b ca C (pc := 43) d_Net_binding_43 ?_
      refine g_Net_150 D b ca C (pc := 46) d_Net_binding_46 ?_
      refine rx_isub C.1 (pc := 49) d_Net_binding_49 ?_
      exact rx_iret C (pc := 50) d_Net_binding_50 (by unfold rv_Net_binding; first | (simp only [if_neg h1, if_neg h2]; done) | (simp only [if_neg h1, if_neg h2]; rfl)) rfl
    ·
      refine rx_iconst C.1 (v := 0) (pc := 18) d_Net_binding_18 (by decide) ?_
      exact rx_iret C (pc := 19) d_Net_binding_19 (by unfold rv_Net_binding; first | (simp only [if_neg h1, if_pos h2]; done) | (simp only [if_neg h1, if_pos h2]; rfl)) rfl

def rv_Net_visit (σ : rMem) (a : Int32) (m : Int32) : Int32 := if (rv_Net_isAgent a) = 0 then 0 else (if a = 0 then 0 else (if (rv_Net_isMobile m) = 0 then 0 else (if (rv_Fa_isVisited σ ((a - 1).toNatClampNeg) m) = 0 then 0 else ((σ ((54 + 4 * (a - 1).toNatClampNeg) + 1) m.toNatClampNeg) - (σ 1 2)))))
set_option maxHeartbeats 4000000 in
set_option maxRecDepth 100000 in
theorem c_Net_visit (l : Launch) (D : va_G) (b : Nat) (ca : Nat → ClassId) {σ : rMem} {a : Int32} {m : Int32} : rx_C l (rx_fin D b ca) y_Net_visit b_Net_visit 4 (some .int) (rx_rm 2) [.ref (rg_A (rx_fin D b ca) 0), .int a, .int m] σ (some (.int (rv_Net_visit σ a m))) σ := by
  refine rx_of (lo := [(0, .ref (rg_A (rx_fin D b ca) 0)), (1, .int a), (2, .int m)]) (by decide) (rx_fin_D D b ca) rfl (Nat.le_of_ble_eq_true rfl) rfl ?_
  intro p e s mm below meth c C
  refine rx_iload_n C.1 (pc := 0) d_Net_visit_0 rfl ?_
  refine q_Net_113 C.1 (pc := 1) d_Net_visit_1 (c_Net_isAgent l ) ⟨Nat.le_of_ble_eq_true rfl, Nat.le_of_ble_eq_true rfl⟩ ⟨Nat.zero_le _, Nat.zero_le _⟩ (Nat.le_of_ble_eq_true rfl) ?_
  refine rx_if_eq C.1 (pc := 4) d_Net_visit_4 (tgt := 18) rfl (fun h1 => ?_) (fun h1 => ?_)
  ·
    refine rx_iconst C.1 (v := 0) (pc := 18) d_Net_visit_18 (by decide) ?_
    exact rx_iret C (pc := 19) d_Net_visit_19 (by unfold rv_Net_visit; first | (simp only [if_pos h1]; done) | (simp only [if_pos h1]; rfl)) rfl
  ·
    refine rx_iload_n C.1 (pc := 7) d_Net_visit_7 rfl ?_
    refine rx_if_eq C.1 (pc := 8) d_Net_visit_8 (tgt := 18) rfl (fun h2 => ?_) (fun h2 => ?_)
    ·
      refine rx_iconst C.1 (v := 0) (pc := 18) d_Net_visit_18 (by decide) ?_
      exact rx_iret C (pc := 19) d_Net_visit_19 (by unfold rv_Net_visit; first | (simp only [if_neg h1, if_pos h2]; done) | (simp only [if_neg h1, if_pos h2]; rfl)) rfl
    ·
      refine rx_iload_n C.1 (pc := 11) d_Net_visit_11 rfl ?_
      refine q_Net_63 C.1 (pc := 12) d_Net_visit_12 (c_Net_isMobile l ) ⟨Nat.le_of_ble_eq_true rfl, Nat.le_of_ble_eq_true rfl⟩ ⟨Nat.zero_le _, Nat.zero_le _⟩ (Nat.le_of_ble_eq_true rfl) ?_
      refine rx_if_ne C.1 (pc := 15) d_Net_visit_15 (tgt := 20) rfl (fun h3 => ?_) (fun h3 => ?_)
      ·
        have g3 := rm_Net h3
        have j3 := rx_j2 g3
        refine rx_aload_n C.1 (pc := 20) d_Net_visit_20 rfl ?_
        refine g_Net_49 D b ca C (pc := 21) d_Net_visit_21 ?_
        refine rx_iload_n C.1 (pc := 24) d_Net_visit_24 rfl ?_
        refine rx_iconst C.1 (v := 1) (pc := 25) d_Net_visit_25 (by decide) ?_
        refine rx_isub C.1 (pc := 26) d_Net_visit_26 ?_
        have ha1 := ag_in h1 h2
        have ha := rx_vn ha1
        refine rx_ald_fas D b ca C (pc := 27) d_Net_visit_27 ha1 ?_
        refine rx_astore_n C.1 (pc := 28) d_Net_visit_28 (by decide) ?_
        refine rx_aload_n C.1 (pc := 29) d_Net_visit_29 rfl ?_
        refine rx_iload_n C.1 (pc := 30) d_Net_visit_30 rfl ?_
        refine q_Net_153 D b ca C (by first | assumption | (constructor <;> omega) | omega | decide) (pc := 31) d_Net_visit_31 (c_Fa_isVisited l D b ca (by first | assumption | (constructor <;> omega) | omega | decide) (by first | assumption | exact rx_iM0 | exact rx_iM1 | (constructor <;> omega))) ⟨Nat.le_of_ble_eq_true rfl, Nat.le_of_ble_eq_true rfl⟩ ⟨Nat.zero_le _, Nat.zero_le _⟩ (Nat.le_of_ble_eq_true rfl) ?_
        refine rx_if_eq C.1 (pc := 34) d_Net_visit_34 (tgt := 54) rfl (fun h4 => ?_) (fun h4 => ?_)
        ·
          refine rx_iconst C.1 (v := 0) (pc := 54) d_Net_visit_54 (by decide) ?_
          exact rx_iret C (pc := 55) d_Net_visit_55 (by unfold rv_Net_visit; first | (simp only [if_neg h1, if_neg h2, if_neg h3, if_pos h4]; done) | (simp only [if_neg h1, if_neg h2, if_neg h3, if_pos h4]; rfl)) rfl
        ·
          refine rx_aload_n C.1 (pc := 37) d_Net_visit_37 rfl ?_
          refine g_Net_156 D b ca C (by first | assumption | (constructor <;> omega) | omega | decide) (pc := 38) d_Net_visit_38 ?_
          refine rx_iload_n C.1 (pc := 41) d_Net_visit_41 rfl ?_
          refine rx_iald C (i := ((54 + 4 * (a - 1).toNatClampNeg) + 1)) (n := 2) (pc := 42) d_Net_visit_42 (rx_lt (by omega)) (rx_E_fr (a := (a - 1).toNatClampNeg) (t := 1) (by assumption) (by omega) _) (by first | assumption | exact rx_in2 (by assumption) | exact rx_v02 | exact rx_v12 | exact vp_in_iff.mpr (by decide)) ?_
          refine rx_aload_n C.1 (pc := 43) d_Net_visit_43 rfl ?_
          refine g_Net_18 D b ca C (pc := 44) d_Net_visit_44 ?_
          refine g_Net_150 D b ca C (pc := 47) d_Net_visit_47 ?_
          refine rx_isub C.1 (pc := 50) d_Net_visit_50 ?_
          refine rx_goto C.1 (pc := 51) d_Net_visit_51 (tgt := 55) rfl ?_
          exact rx_iret C (pc := 55) d_Net_visit_55 (by unfold rv_Net_visit; first | (simp only [if_neg h1, if_neg h2, if_neg h3, if_neg h4]; done) | (simp only [if_neg h1, if_neg h2, if_neg h3, if_neg h4]; rfl)) rfl
      ·
        refine rx_iconst C.1 (v := 0) (pc := 18) d_Net_visit_18 (by decide) ?_
        exact rx_iret C (pc := 19) d_Net_visit_19 (by unfold rv_Net_visit; first | (simp only [if_neg h1, if_neg h2, if_pos h3]; done) | (simp only [if_neg h1, if_neg h2, if_pos h3]; rfl)) rfl

def rv_Net_count (σ : rMem) (w : Int32) (m : Int32) : Int32 := if (rv_Net_isMobile m) = 0 then (-1) else (if w = 0 then (σ (46 + m.toNatClampNeg) 13) else (if w = 1 then (σ 68 m.toNatClampNeg) else (if w = 2 then (σ 69 m.toNatClampNeg) else (if w = 3 then (σ 67 m.toNatClampNeg) else (-1)))))
set_option maxHeartbeats 4000000 in
set_option maxRecDepth 100000 in
theorem c_Net_count (l : Launch) (D : va_G) (b : Nat) (ca : Nat → ClassId) {σ : rMem} {w : Int32} {m : Int32} : rx_C l (rx_fin D b ca) y_Net_count b_Net_count 3 (some .int) (rx_rm 2) [.ref (rg_A (rx_fin D b ca) 0), .int w, .int m] σ (some (.int (rv_Net_count σ w m))) σ := by
  refine rx_of (lo := [(0, .ref (rg_A (rx_fin D b ca) 0)), (1, .int w), (2, .int m)]) (by decide) (rx_fin_D D b ca) rfl (Nat.le_of_ble_eq_true rfl) rfl ?_
  intro p e s mm below meth c C
  refine rx_iload_n C.1 (pc := 0) d_Net_count_0 rfl ?_
  refine q_Net_63 C.1 (pc := 1) d_Net_count_1 (c_Net_isMobile l ) ⟨Nat.le_of_ble_eq_true rfl, Nat.le_of_ble_eq_true rfl⟩ ⟨Nat.zero_le _, Nat.zero_le _⟩ (Nat.le_of_ble_eq_true rfl) ?_
  refine rx_if_ne C.1 (pc := 4) d_Net_count_4 (tgt := 9) rfl (fun h1 => ?_) (fun h1 => ?_)
  ·
    have g1 := rm_Net h1
    have j1 := rx_j2 g1
    refine rx_iload_n C.1 (pc := 9) d_Net_count_9 rfl ?_
    by_cases h2 : w = 0
    ·
      refine rx_tin C.1 h2 (pc := 10) (tgt := 40) d_Net_count_10 (by decide) (by decide) rfl rfl ?_
      have hj := rx_j2 g1
      refine rx_aload_n C.1 (pc := 40) d_Net_count_40 rfl ?_
      refine g_Net_31 D b ca C (pc := 41) d_Net_count_41 ?_
      refine rx_iload_n C.1 (pc := 44) d_Net_count_44 rfl ?_
      refine rx_ald_mobs D b ca C (pc := 45) d_Net_count_45 (by first | assumption | exact rx_in2 (by assumption) | exact rx_v02 | exact rx_v12 | exact vp_in_iff.mpr (by decide)) ?_
      refine g_Net_159 D b ca C (by first | assumption | (constructor <;> omega) | omega | decide) (pc := 46) d_Net_count_46 ?_
      exact rx_iret C (pc := 49) d_Net_count_49 (by unfold rv_Net_count; first | (simp only [if_neg h1, if_pos h2]; done) | (simp only [if_neg h1, if_pos h2]; rfl)) rfl
    ·
      by_cases h3 : w = 1
      ·
        refine rx_tin C.1 h3 (pc := 10) (tgt := 50) d_Net_count_10 (by decide) (by decide) rfl rfl ?_
        refine rx_aload_n C.1 (pc := 50) d_Net_count_50 rfl ?_
        refine g_Net_59 D b ca C (pc := 51) d_Net_count_51 ?_
        refine g_Net_162 D b ca C (pc := 54) d_Net_count_54 ?_
        refine rx_iload_n C.1 (pc := 57) d_Net_count_57 rfl ?_
        refine rx_iald C (i := 68) (n := 2) (pc := 58) d_Net_count_58 (rx_lt (by decide)) rfl (by first | assumption | exact rx_in2 (by assumption) | exact rx_v02 | exact rx_v12 | exact vp_in_iff.mpr (by decide)) ?_
        exact rx_iret C (pc := 59) d_Net_count_59 (by unfold rv_Net_count; first | (simp only [if_neg h1, if_neg h2, if_pos h3]; done) | (simp only [if_neg h1, if_neg h2, if_pos h3]; rfl)) rfl
      ·
        by_cases h4 : w = 2
        ·
          refine rx_tin C.1 h4 (pc := 10) (tgt := 60) d_Net_count_10 (by decide) (by decide) rfl rfl ?_
          refine rx_aload_n C.1 (pc := 60) d_Net_count_60 rfl ?_
          refine g_Net_59 D b ca C (pc := 61) d_Net_count_61 ?_
          refine g_Net_165 D b ca C (pc := 64) d_Net_count_64 ?_
          refine rx_iload_n C.1 (pc := 67) d_Net_count_67 rfl ?_
          refine rx_iald C (i := 69) (n := 2) (pc := 68) d_Net_count_68 (rx_lt (by decide)) rfl (by first | assumption | exact rx_in2 (by assumption) | exact rx_v02 | exact rx_v12 | exact vp_in_iff.mpr (by decide)) ?_
          exact rx_iret C (pc := 69) d_Net_count_69 (by unfold rv_Net_count; first | (simp only [if_neg h1, if_neg h2, if_neg h3, if_pos h4]; done) | (simp only [if_neg h1, if_neg h2, if_neg h3, if_pos h4]; rfl)) rfl
        ·
          by_cases h5 : w = 3
          ·
            refine rx_tin C.1 h5 (pc := 10) (tgt := 70) d_Net_count_10 (by decide) (by decide) rfl rfl ?_
            refine rx_aload_n C.1 (pc := 70) d_Net_count_70 rfl ?_
            refine g_Net_59 D b ca C (pc := 71) d_Net_count_71 ?_
            refine g_Net_81 D b ca C (pc := 74) d_Net_count_74 ?_
            refine rx_iload_n C.1 (pc := 77) d_Net_count_77 rfl ?_
            refine rx_iald C (i := 67) (n := 2) (pc := 78) d_Net_count_78 (rx_lt (by decide)) rfl (by first | assumption | exact rx_in2 (by assumption) | exact rx_v02 | exact rx_v12 | exact vp_in_iff.mpr (by decide)) ?_
            exact rx_iret C (pc := 79) d_Net_count_79 (by unfold rv_Net_count; first | (simp only [if_neg h1, if_neg h2, if_neg h3, if_neg h4, if_pos h5]; done) | (simp only [if_neg h1, if_neg h2, if_neg h3, if_neg h4, if_pos h5]; rfl)) rfl
          ·
            refine rx_tout4 C.1 h2 h3 h4 h5 (pc := 10) (tgt := 80) d_Net_count_10 rfl ?_
            refine rx_iconst C.1 (v := (-1)) (pc := 80) d_Net_count_80 (by decide) ?_
            exact rx_iret C (pc := 81) d_Net_count_81 (by unfold rv_Net_count; first | (simp only [if_neg h1, if_neg h2, if_neg h3, if_neg h4, if_neg h5]; done) | (simp only [if_neg h1, if_neg h2, if_neg h3, if_neg h4, if_neg h5]; rfl)) rfl
  ·
    refine rx_iconst C.1 (v := (-1)) (pc := 7) d_Net_count_7 (by decide) ?_
    exact rx_iret C (pc := 8) d_Net_count_8 (by unfold rv_Net_count; first | (simp only [if_pos h1]; done) | (simp only [if_pos h1]; rfl)) rfl

def sp_Net_advertise (σ : rMem) (a : Int32) : rMem := if (σ (46 + (Int32.toNatClampNeg 0)) 4) = a then (let m2 := (sp_Wire_sendInNetwork σ a 1 0 a).1; if (m2 (46 + (Int32.toNatClampNeg 1)) 4) = a then (let m3 := (sp_Wire_sendInNetwork m2 a 1 1 a).1; m3) else m2) else (if (σ (46 + (Int32.toNatClampNeg 1)) 4) = a then (let m1 := (sp_Wire_sendInNetwork σ a 1 1 a).1; m1) else σ)
set_option maxHeartbeats 4000000 in
set_option maxRecDepth 100000 in
theorem c_Net_advertise (l : Launch) (D : va_G) (b : Nat) (ca : Nat → ClassId) {σ : rMem} {a : Int32} : rx_C l (rx_fin D b ca) y_Net_advertise b_Net_advertise 3 none (rx_rm 4) [.ref (rg_A (rx_fin D b ca) 0), .int a] σ none (sp_Net_advertise σ a) := by
  refine rx_of (lo := [(0, .ref (rg_A (rx_fin D b ca) 0)), (1, .int a)]) (by decide) (rx_fin_D D b ca) rfl (Nat.le_of_ble_eq_true rfl) rfl ?_
  intro p e s mm below meth c C
  refine rx_iconst C.1 (v := 0) (pc := 0) d_Net_advertise_0 (by decide) ?_
  refine rx_istore_n C.1 (pc := 1) d_Net_advertise_1 (by decide) ?_
  refine rx_iload_n C.1 (pc := 2) d_Net_advertise_2 rfl ?_
  refine rx_iconst C.1 (v := 2) (pc := 3) d_Net_advertise_3 (by decide) ?_
  refine rx_icmp_ge C.1 (pc := 4) d_Net_advertise_4 (tgt := 38) rfl (fun h9 => absurd h9 (by decide)) (fun _ => ?_)
  refine rx_aload_n C.1 (pc := 7) d_Net_advertise_7 rfl ?_
  refine g_Net_31 D b ca C (pc := 8) d_Net_advertise_8 ?_
  refine rx_iload_n C.1 (pc := 11) d_Net_advertise_11 rfl ?_
  refine rx_ald_mobs D b ca C (pc := 12) d_Net_advertise_12 (by first | assumption | exact rx_in2 (by assumption) | exact rx_v02 | exact rx_v12 | exact vp_in_iff.mpr (by decide)) ?_
  refine g_Net_75 D b ca C (by first | assumption | (constructor <;> omega) | omega | decide) (pc := 13) d_Net_advertise_13 ?_
  refine rx_iload_n C.1 (pc := 16) d_Net_advertise_16 rfl ?_
  refine rx_icmp_ne C.1 (pc := 17) d_Net_advertise_17 (tgt := 32) rfl (fun h1 => ?_) (fun h1 => ?_)
  ·
    refine rx_iinc C.1 (v := 1) (pc := 32) d_Net_advertise_32 rfl (by decide) (by decide) ?_
    refine rx_goto C.1 (pc := 35) d_Net_advertise_35 (tgt := 2) rfl ?_
    refine rx_iload_n C.1 (pc := 2) d_Net_advertise_2 rfl ?_
    refine rx_iconst C.1 (v := 2) (pc := 3) d_Net_advertise_3 (by decide) ?_
    refine rx_icmp_ge C.1 (pc := 4) d_Net_advertise_4 (tgt := 38) rfl (fun h9 => absurd h9 (by decide)) (fun _ => ?_)
    refine rx_aload_n C.1 (pc := 7) d_Net_advertise_7 rfl ?_
    refine g_Net_31 D b ca C (pc := 8) d_Net_advertise_8 ?_
    refine rx_iload_n C.1 (pc := 11) d_Net_advertise_11 rfl ?_
    refine rx_ald_mobs D b ca C (pc := 12) d_Net_advertise_12 (by first | assumption | exact rx_in2 (by assumption) | exact rx_v02 | exact rx_v12 | exact vp_in_iff.mpr (by decide)) ?_
    refine g_Net_75 D b ca C (by first | assumption | (constructor <;> omega) | omega | decide) (pc := 13) d_Net_advertise_13 ?_
    refine rx_iload_n C.1 (pc := 16) d_Net_advertise_16 rfl ?_
    refine rx_icmp_ne C.1 (pc := 17) d_Net_advertise_17 (tgt := 32) rfl (fun h2 => ?_) (fun h2 => ?_)
    ·
      refine rx_iinc C.1 (v := 2) (pc := 32) d_Net_advertise_32 rfl (by decide) (by decide) ?_
      refine rx_goto C.1 (pc := 35) d_Net_advertise_35 (tgt := 2) rfl ?_
      refine rx_iload_n C.1 (pc := 2) d_Net_advertise_2 rfl ?_
      refine rx_iconst C.1 (v := 2) (pc := 3) d_Net_advertise_3 (by decide) ?_
      refine rx_icmp_ge C.1 (pc := 4) d_Net_advertise_4 (tgt := 38) rfl (fun _ => ?_) (fun h9 => absurd (by decide) h9) 
      exact rx_vret C (pc := 38) d_Net_advertise_38 (by unfold sp_Net_advertise; first | (simp only [if_neg h1, if_neg h2]; done) | (simp only [if_neg h1, if_neg h2]; rfl))
    ·
      refine rx_aload_n C.1 (pc := 20) d_Net_advertise_20 rfl ?_
      refine g_Net_18 D b ca C (pc := 21) d_Net_advertise_21 ?_
      refine rx_iload_n C.1 (pc := 24) d_Net_advertise_24 rfl ?_
      refine rx_iconst C.1 (v := 1) (pc := 25) d_Net_advertise_25 (by decide) ?_
      refine rx_iload_n C.1 (pc := 26) d_Net_advertise_26 rfl ?_
      refine rx_iload_n C.1 (pc := 27) d_Net_advertise_27 rfl ?_
      refine q_Net_177 D b ca C (pc := 28) d_Net_advertise_28 (c_Wire_sendInNetwork l D b ca ) (fun hI => rq_Wire_sendInNetwork hI) ⟨Nat.le_of_ble_eq_true rfl, Nat.le_of_ble_eq_true rfl⟩ ⟨Nat.zero_le _, Nat.zero_le _⟩ (Nat.le_of_ble_eq_true rfl) (fun hq1 => ?_)
      refine rx_pop C.1 (pc := 31) d_Net_advertise_31 rfl ?_
      refine rx_iinc C.1 (v := 2) (pc := 32) d_Net_advertise_32 rfl (by decide) (by decide) ?_
      refine rx_goto C.1 (pc := 35) d_Net_advertise_35 (tgt := 2) rfl ?_
      refine rx_iload_n C.1 (pc := 2) d_Net_advertise_2 rfl ?_
      refine rx_iconst C.1 (v := 2) (pc := 3) d_Net_advertise_3 (by decide) ?_
      refine rx_icmp_ge C.1 (pc := 4) d_Net_advertise_4 (tgt := 38) rfl (fun _ => ?_) (fun h9 => absurd (by decide) h9) 
      exact rx_vret C (pc := 38) d_Net_advertise_38 (by unfold sp_Net_advertise; first | (simp only [if_neg h1, if_pos h2]; done) | (simp only [if_neg h1, if_pos h2]; rfl))
  ·
    refine rx_aload_n C.1 (pc := 20) d_Net_advertise_20 rfl ?_
    refine g_Net_18 D b ca C (pc := 21) d_Net_advertise_21 ?_
    refine rx_iload_n C.1 (pc := 24) d_Net_advertise_24 rfl ?_
    refine rx_iconst C.1 (v := 1) (pc := 25) d_Net_advertise_25 (by decide) ?_
    refine rx_iload_n C.1 (pc := 26) d_Net_advertise_26 rfl ?_
    refine rx_iload_n C.1 (pc := 27) d_Net_advertise_27 rfl ?_
    refine q_Net_177 D b ca C (pc := 28) d_Net_advertise_28 (c_Wire_sendInNetwork l D b ca ) (fun hI => rq_Wire_sendInNetwork hI) ⟨Nat.le_of_ble_eq_true rfl, Nat.le_of_ble_eq_true rfl⟩ ⟨Nat.zero_le _, Nat.zero_le _⟩ (Nat.le_of_ble_eq_true rfl) (fun hq2 => ?_)
    refine rx_pop C.1 (pc := 31) d_Net_advertise_31 rfl ?_
    refine rx_iinc C.1 (v := 1) (pc := 32) d_Net_advertise_32 rfl (by decide) (by decide) ?_
    refine rx_goto C.1 (pc := 35) d_Net_advertise_35 (tgt := 2) rfl ?_
    refine rx_iload_n C.1 (pc := 2) d_Net_advertise_2 rfl ?_
    refine rx_iconst C.1 (v := 2) (pc := 3) d_Net_advertise_3 (by decide) ?_
    refine rx_icmp_ge C.1 (pc := 4) d_Net_advertise_4 (tgt := 38) rfl (fun h9 => absurd h9 (by decide)) (fun _ => ?_)
    refine rx_aload_n C.1 (pc := 7) d_Net_advertise_7 rfl ?_
    refine g_Net_31 D b ca C (pc := 8) d_Net_advertise_8 ?_
    refine rx_iload_n C.1 (pc := 11) d_Net_advertise_11 rfl ?_
    refine rx_ald_mobs D b ca C (pc := 12) d_Net_advertise_12 (by first | assumption | exact rx_in2 (by assumption) | exact rx_v02 | exact rx_v12 | exact vp_in_iff.mpr (by decide)) ?_
    refine g_Net_75 D b ca C (by first | assumption | (constructor <;> omega) | omega | decide) (pc := 13) d_Net_advertise_13 ?_
    refine rx_iload_n C.1 (pc := 16) d_Net_advertise_16 rfl ?_
    refine rx_icmp_ne C.1 (pc := 17) d_Net_advertise_17 (tgt := 32) rfl (fun h3 => ?_) (fun h3 => ?_)
    ·
      refine rx_iinc C.1 (v := 2) (pc := 32) d_Net_advertise_32 rfl (by decide) (by decide) ?_
      refine rx_goto C.1 (pc := 35) d_Net_advertise_35 (tgt := 2) rfl ?_
      refine rx_iload_n C.1 (pc := 2) d_Net_advertise_2 rfl ?_
      refine rx_iconst C.1 (v := 2) (pc := 3) d_Net_advertise_3 (by decide) ?_
      refine rx_icmp_ge C.1 (pc := 4) d_Net_advertise_4 (tgt := 38) rfl (fun _ => ?_) (fun h9 => absurd (by decide) h9) 
      exact rx_vret C (pc := 38) d_Net_advertise_38 (by unfold sp_Net_advertise; first | (simp only [if_pos h1, if_neg h3]; done) | (simp only [if_pos h1, if_neg h3]; rfl))
    ·
      refine rx_aload_n C.1 (pc := 20) d_Net_advertise_20 rfl ?_
      refine g_Net_18 D b ca C (pc := 21) d_Net_advertise_21 ?_
      refine rx_iload_n C.1 (pc := 24) d_Net_advertise_24 rfl ?_
      refine rx_iconst C.1 (v := 1) (pc := 25) d_Net_advertise_25 (by decide) ?_
      refine rx_iload_n C.1 (pc := 26) d_Net_advertise_26 rfl ?_
      refine rx_iload_n C.1 (pc := 27) d_Net_advertise_27 rfl ?_
      refine q_Net_177 D b ca C (pc := 28) d_Net_advertise_28 (c_Wire_sendInNetwork l D b ca ) (fun hI => rq_Wire_sendInNetwork hI) ⟨Nat.le_of_ble_eq_true rfl, Nat.le_of_ble_eq_true rfl⟩ ⟨Nat.zero_le _, Nat.zero_le _⟩ (Nat.le_of_ble_eq_true rfl) (fun hq3 => ?_)
      refine rx_pop C.1 (pc := 31) d_Net_advertise_31 rfl ?_
      refine rx_iinc C.1 (v := 2) (pc := 32) d_Net_advertise_32 rfl (by decide) (by decide) ?_
      refine rx_goto C.1 (pc := 35) d_Net_advertise_35 (tgt := 2) rfl ?_
      refine rx_iload_n C.1 (pc := 2) d_Net_advertise_2 rfl ?_
      refine rx_iconst C.1 (v := 2) (pc := 3) d_Net_advertise_3 (by decide) ?_
      refine rx_icmp_ge C.1 (pc := 4) d_Net_advertise_4 (tgt := 38) rfl (fun _ => ?_) (fun h9 => absurd (by decide) h9) 
      exact rx_vret C (pc := 38) d_Net_advertise_38 (by unfold sp_Net_advertise; first | (simp only [if_pos h1, if_pos h3]; done) | (simp only [if_pos h1, if_pos h3]; rfl))

def sp_Net_passOneTick (σ : rMem)  : rMem := let m1 := rx_wr σ 1 2 ((σ 1 2) + 1); if ((m1 1 2) - (m1 1 2) / 4 * 4) = 0 then (let m6 := sp_Net_advertise m1 0; let m7 := sp_Net_advertise m6 1; let m8 := sp_Net_advertise m7 2; let m9 := sp_Net_advertise m8 3; let m10 := sp_Mob_notice m9 (Int32.toNatClampNeg 0); let m11 := sp_Mob_notice m10 (Int32.toNatClampNeg 1); let m12 := sp_Corr_resendIfDue m11 0; let m13 := sp_Corr_resendIfDue m12 1; m13) else (let m2 := sp_Mob_notice m1 (Int32.toNatClampNeg 0); let m3 := sp_Mob_notice m2 (Int32.toNatClampNeg 1); let m4 := sp_Corr_resendIfDue m3 0; let m5 := sp_Corr_resendIfDue m4 1; m5)
set_option maxHeartbeats 4000000 in
set_option maxRecDepth 100000 in
theorem c_Net_passOneTick (l : Launch) (D : va_G) (b : Nat) (ca : Nat → ClassId) {σ : rMem}  : rx_C l (rx_fin D b ca) y_Net_passOneTick b_Net_passOneTick 2 none (rx_rm 5) [.ref (rg_A (rx_fin D b ca) 0)] σ none (sp_Net_passOneTick σ) := by
  refine rx_of (lo := [(0, .ref (rg_A (rx_fin D b ca) 0))]) (by decide) (rx_fin_D D b ca) rfl (Nat.le_of_ble_eq_true rfl) rfl ?_
  intro p e s mm below meth c C
  refine rx_aload_n C.1 (pc := 0) d_Net_passOneTick_0 rfl ?_
  refine g_Net_18 D b ca C (pc := 1) d_Net_passOneTick_1 ?_
  refine rx_dup C.1 (pc := 4) d_Net_passOneTick_4 rfl ?_
  refine g_Net_150 D b ca C (pc := 5) d_Net_passOneTick_5 ?_
  refine rx_iconst C.1 (v := 1) (pc := 8) d_Net_passOneTick_8 (by decide) ?_
  refine rx_iadd C.1 (pc := 9) d_Net_passOneTick_9 ?_
  refine p_Net_150 D b ca C (pc := 10) d_Net_passOneTick_10 ?_
  refine rx_aload_n C.1 (pc := 13) d_Net_passOneTick_13 rfl ?_
  refine g_Net_18 D b ca C (pc := 14) d_Net_passOneTick_14 ?_
  refine g_Net_150 D b ca C (pc := 17) d_Net_passOneTick_17 ?_
  refine rx_iconst C.1 (v := 4) (pc := 20) d_Net_passOneTick_20 (by decide) ?_
  refine rx_irem C.1 (pc := 21) d_Net_passOneTick_21 (by decide) ?_
  refine rx_if_ne C.1 (pc := 22) d_Net_passOneTick_22 (tgt := 43) rfl (fun h1 => ?_) (fun h1 => ?_)
  ·
    refine rx_iconst C.1 (v := 0) (pc := 43) d_Net_passOneTick_43 (by decide) ?_
    refine rx_istore_n C.1 (pc := 44) d_Net_passOneTick_44 (by decide) ?_
    refine rx_iload_n C.1 (pc := 45) d_Net_passOneTick_45 rfl ?_
    refine rx_iconst C.1 (v := 2) (pc := 46) d_Net_passOneTick_46 (by decide) ?_
    refine rx_icmp_ge C.1 (pc := 47) d_Net_passOneTick_47 (tgt := 65) rfl (fun h9 => absurd h9 (by decide)) (fun _ => ?_)
    refine rx_aload_n C.1 (pc := 50) d_Net_passOneTick_50 rfl ?_
    refine g_Net_31 D b ca C (pc := 51) d_Net_passOneTick_51 ?_
    refine rx_iload_n C.1 (pc := 54) d_Net_passOneTick_54 rfl ?_
    refine rx_ald_mobs D b ca C (pc := 55) d_Net_passOneTick_55 (by first | assumption | exact rx_in2 (by assumption) | exact rx_v02 | exact rx_v12 | exact vp_in_iff.mpr (by decide)) ?_
    refine q_Net_171 D b ca C (by first | assumption | (constructor <;> omega) | omega | decide) (pc := 56) d_Net_passOneTick_56 (c_Mob_notice l D b ca (by first | assumption | (constructor <;> omega) | omega | decide) ) ⟨Nat.le_of_ble_eq_true rfl, Nat.le_of_ble_eq_true rfl⟩ ⟨Nat.zero_le _, Nat.zero_le _⟩ (Nat.le_of_ble_eq_true rfl) ?_
    refine rx_iinc C.1 (v := 1) (pc := 59) d_Net_passOneTick_59 rfl (by decide) (by decide) ?_
    refine rx_goto C.1 (pc := 62) d_Net_passOneTick_62 (tgt := 45) rfl ?_
    refine rx_iload_n C.1 (pc := 45) d_Net_passOneTick_45 rfl ?_
    refine rx_iconst C.1 (v := 2) (pc := 46) d_Net_passOneTick_46 (by decide) ?_
    refine rx_icmp_ge C.1 (pc := 47) d_Net_passOneTick_47 (tgt := 65) rfl (fun h9 => absurd h9 (by decide)) (fun _ => ?_)
    refine rx_aload_n C.1 (pc := 50) d_Net_passOneTick_50 rfl ?_
    refine g_Net_31 D b ca C (pc := 51) d_Net_passOneTick_51 ?_
    refine rx_iload_n C.1 (pc := 54) d_Net_passOneTick_54 rfl ?_
    refine rx_ald_mobs D b ca C (pc := 55) d_Net_passOneTick_55 (by first | assumption | exact rx_in2 (by assumption) | exact rx_v02 | exact rx_v12 | exact vp_in_iff.mpr (by decide)) ?_
    refine q_Net_171 D b ca C (by first | assumption | (constructor <;> omega) | omega | decide) (pc := 56) d_Net_passOneTick_56 (c_Mob_notice l D b ca (by first | assumption | (constructor <;> omega) | omega | decide) ) ⟨Nat.le_of_ble_eq_true rfl, Nat.le_of_ble_eq_true rfl⟩ ⟨Nat.zero_le _, Nat.zero_le _⟩ (Nat.le_of_ble_eq_true rfl) ?_
    refine rx_iinc C.1 (v := 2) (pc := 59) d_Net_passOneTick_59 rfl (by decide) (by decide) ?_
    refine rx_goto C.1 (pc := 62) d_Net_passOneTick_62 (tgt := 45) rfl ?_
    refine rx_iload_n C.1 (pc := 45) d_Net_passOneTick_45 rfl ?_
    refine rx_iconst C.1 (v := 2) (pc := 46) d_Net_passOneTick_46 (by decide) ?_
    refine rx_icmp_ge C.1 (pc := 47) d_Net_passOneTick_47 (tgt := 65) rfl (fun _ => ?_) (fun h9 => absurd (by decide) h9) 
    refine rx_iconst C.1 (v := 0) (pc := 65) d_Net_passOneTick_65 (by decide) ?_
    refine rx_istore_n C.1 (pc := 66) d_Net_passOneTick_66 (by decide) ?_
    refine rx_iload_n C.1 (pc := 67) d_Net_passOneTick_67 rfl ?_
    refine rx_iconst C.1 (v := 2) (pc := 68) d_Net_passOneTick_68 (by decide) ?_
    refine rx_icmp_ge C.1 (pc := 69) d_Net_passOneTick_69 (tgt := 86) rfl (fun h9 => absurd h9 (by decide)) (fun _ => ?_)
    refine rx_aload_n C.1 (pc := 72) d_Net_passOneTick_72 rfl ?_
    refine g_Net_59 D b ca C (pc := 73) d_Net_passOneTick_73 ?_
    refine rx_iload_n C.1 (pc := 76) d_Net_passOneTick_76 rfl ?_
    refine q_Net_174 D b ca C (pc := 77) d_Net_passOneTick_77 (c_Corr_resendIfDue l D b ca (by first | assumption | exact rx_iM0 | exact rx_iM1 | (constructor <;> omega))) ⟨Nat.le_of_ble_eq_true rfl, Nat.le_of_ble_eq_true rfl⟩ ⟨Nat.zero_le _, Nat.zero_le _⟩ (Nat.le_of_ble_eq_true rfl) ?_
    refine rx_iinc C.1 (v := 1) (pc := 80) d_Net_passOneTick_80 rfl (by decide) (by decide) ?_
    refine rx_goto C.1 (pc := 83) d_Net_passOneTick_83 (tgt := 67) rfl ?_
    refine rx_iload_n C.1 (pc := 67) d_Net_passOneTick_67 rfl ?_
    refine rx_iconst C.1 (v := 2) (pc := 68) d_Net_passOneTick_68 (by decide) ?_
    refine rx_icmp_ge C.1 (pc := 69) d_Net_passOneTick_69 (tgt := 86) rfl (fun h9 => absurd h9 (by decide)) (fun _ => ?_)
    refine rx_aload_n C.1 (pc := 72) d_Net_passOneTick_72 rfl ?_
    refine g_Net_59 D b ca C (pc := 73) d_Net_passOneTick_73 ?_
    refine rx_iload_n C.1 (pc := 76) d_Net_passOneTick_76 rfl ?_
    refine q_Net_174 D b ca C (pc := 77) d_Net_passOneTick_77 (c_Corr_resendIfDue l D b ca (by first | assumption | exact rx_iM0 | exact rx_iM1 | (constructor <;> omega))) ⟨Nat.le_of_ble_eq_true rfl, Nat.le_of_ble_eq_true rfl⟩ ⟨Nat.zero_le _, Nat.zero_le _⟩ (Nat.le_of_ble_eq_true rfl) ?_
    refine rx_iinc C.1 (v := 2) (pc := 80) d_Net_passOneTick_80 rfl (by decide) (by decide) ?_
    refine rx_goto C.1 (pc := 83) d_Net_passOneTick_83 (tgt := 67) rfl ?_
    refine rx_iload_n C.1 (pc := 67) d_Net_passOneTick_67 rfl ?_
    refine rx_iconst C.1 (v := 2) (pc := 68) d_Net_passOneTick_68 (by decide) ?_
    refine rx_icmp_ge C.1 (pc := 69) d_Net_passOneTick_69 (tgt := 86) rfl (fun _ => ?_) (fun h9 => absurd (by decide) h9) 
    exact rx_vret C (pc := 86) d_Net_passOneTick_86 (by unfold sp_Net_passOneTick; first | (simp only [if_neg h1]; done) | (simp only [if_neg h1]; rfl))
  ·
    refine rx_iconst C.1 (v := 0) (pc := 25) d_Net_passOneTick_25 (by decide) ?_
    refine rx_istore_n C.1 (pc := 26) d_Net_passOneTick_26 (by decide) ?_
    refine rx_iload_n C.1 (pc := 27) d_Net_passOneTick_27 rfl ?_
    refine rx_iconst C.1 (v := 4) (pc := 28) d_Net_passOneTick_28 (by decide) ?_
    refine rx_icmp_ge C.1 (pc := 29) d_Net_passOneTick_29 (tgt := 43) rfl (fun h9 => absurd h9 (by decide)) (fun _ => ?_)
    refine rx_aload_n C.1 (pc := 32) d_Net_passOneTick_32 rfl ?_
    refine rx_iload_n C.1 (pc := 33) d_Net_passOneTick_33 rfl ?_
    refine q_Net_168 D b ca C (pc := 34) d_Net_passOneTick_34 (c_Net_advertise l D b ca ) ⟨Nat.le_of_ble_eq_true rfl, Nat.le_of_ble_eq_true rfl⟩ ⟨Nat.zero_le _, Nat.zero_le _⟩ (Nat.le_of_ble_eq_true rfl) ?_
    refine rx_iinc C.1 (v := 1) (pc := 37) d_Net_passOneTick_37 rfl (by decide) (by decide) ?_
    refine rx_goto C.1 (pc := 40) d_Net_passOneTick_40 (tgt := 27) rfl ?_
    refine rx_iload_n C.1 (pc := 27) d_Net_passOneTick_27 rfl ?_
    refine rx_iconst C.1 (v := 4) (pc := 28) d_Net_passOneTick_28 (by decide) ?_
    refine rx_icmp_ge C.1 (pc := 29) d_Net_passOneTick_29 (tgt := 43) rfl (fun h9 => absurd h9 (by decide)) (fun _ => ?_)
    refine rx_aload_n C.1 (pc := 32) d_Net_passOneTick_32 rfl ?_
    refine rx_iload_n C.1 (pc := 33) d_Net_passOneTick_33 rfl ?_
    refine q_Net_168 D b ca C (pc := 34) d_Net_passOneTick_34 (c_Net_advertise l D b ca ) ⟨Nat.le_of_ble_eq_true rfl, Nat.le_of_ble_eq_true rfl⟩ ⟨Nat.zero_le _, Nat.zero_le _⟩ (Nat.le_of_ble_eq_true rfl) ?_
    refine rx_iinc C.1 (v := 2) (pc := 37) d_Net_passOneTick_37 rfl (by decide) (by decide) ?_
    refine rx_goto C.1 (pc := 40) d_Net_passOneTick_40 (tgt := 27) rfl ?_
    refine rx_iload_n C.1 (pc := 27) d_Net_passOneTick_27 rfl ?_
    refine rx_iconst C.1 (v := 4) (pc := 28) d_Net_passOneTick_28 (by decide) ?_
    refine rx_icmp_ge C.1 (pc := 29) d_Net_passOneTick_29 (tgt := 43) rfl (fun h9 => absurd h9 (by decide)) (fun _ => ?_)
    refine rx_aload_n C.1 (pc := 32) d_Net_passOneTick_32 rfl ?_
    refine rx_iload_n C.1 (pc := 33) d_Net_passOneTick_33 rfl ?_
    refine q_Net_168 D b ca C (pc := 34) d_Net_passOneTick_34 (c_Net_advertise l D b ca ) ⟨Nat.le_of_ble_eq_true rfl, Nat.le_of_ble_eq_true rfl⟩ ⟨Nat.zero_le _, Nat.zero_le _⟩ (Nat.le_of_ble_eq_true rfl) ?_
    refine rx_iinc C.1 (v := 3) (pc := 37) d_Net_passOneTick_37 rfl (by decide) (by decide) ?_
    refine rx_goto C.1 (pc := 40) d_Net_passOneTick_40 (tgt := 27) rfl ?_
    refine rx_iload_n C.1 (pc := 27) d_Net_passOneTick_27 rfl ?_
    refine rx_iconst C.1 (v := 4) (pc := 28) d_Net_passOneTick_28 (by decide) ?_
    refine rx_icmp_ge C.1 (pc := 29) d_Net_passOneTick_29 (tgt := 43) rfl (fun h9 => absurd h9 (by decide)) (fun _ => ?_)
    refine rx_aload_n C.1 (pc := 32) d_Net_passOneTick_32 rfl ?_
    refine rx_iload_n C.1 (pc := 33) d_Net_passOneTick_33 rfl ?_
    refine q_Net_168 D b ca C (pc := 34) d_Net_passOneTick_34 (c_Net_advertise l D b ca ) ⟨Nat.le_of_ble_eq_true rfl, Nat.le_of_ble_eq_true rfl⟩ ⟨Nat.zero_le _, Nat.zero_le _⟩ (Nat.le_of_ble_eq_true rfl) ?_
    refine rx_iinc C.1 (v := 4) (pc := 37) d_Net_passOneTick_37 rfl (by decide) (by decide) ?_
    refine rx_goto C.1 (pc := 40) d_Net_passOneTick_40 (tgt := 27) rfl ?_
    refine rx_iload_n C.1 (pc := 27) d_Net_passOneTick_27 rfl ?_
    refine rx_iconst C.1 (v := 4) (pc := 28) d_Net_passOneTick_28 (by decide) ?_
    refine rx_icmp_ge C.1 (pc := 29) d_Net_passOneTick_29 (tgt := 43) rfl (fun _ => ?_) (fun h9 => absurd (by decide) h9) 
    refine rx_iconst C.1 (v := 0) (pc := 43) d_Net_passOneTick_43 (by decide) ?_
    refine rx_istore_n C.1 (pc := 44) d_Net_passOneTick_44 (by decide) ?_
    refine rx_iload_n C.1 (pc := 45) d_Net_passOneTick_45 rfl ?_
    refine rx_iconst C.1 (v := 2) (pc := 46) d_Net_passOneTick_46 (by decide) ?_
    refine rx_icmp_ge C.1 (pc := 47) d_Net_passOneTick_47 (tgt := 65) rfl (fun h9 => absurd h9 (by decide)) (fun _ => ?_)
    refine rx_aload_n C.1 (pc := 50) d_Net_passOneTick_50 rfl ?_
    refine g_Net_31 D b ca C (pc := 51) d_Net_passOneTick_51 ?_
    refine rx_iload_n C.1 (pc := 54) d_Net_passOneTick_54 rfl ?_
    refine rx_ald_mobs D b ca C (pc := 55) d_Net_passOneTick_55 (by first | assumption | exact rx_in2 (by assumption) | exact rx_v02 | exact rx_v12 | exact vp_in_iff.mpr (by decide)) ?_
    refine q_Net_171 D b ca C (by first | assumption | (constructor <;> omega) | omega | decide) (pc := 56) d_Net_passOneTick_56 (c_Mob_notice l D b ca (by first | assumption | (constructor <;> omega) | omega | decide) ) ⟨Nat.le_of_ble_eq_true rfl, Nat.le_of_ble_eq_true rfl⟩ ⟨Nat.zero_le _, Nat.zero_le _⟩ (Nat.le_of_ble_eq_true rfl) ?_
    refine rx_iinc C.1 (v := 1) (pc := 59) d_Net_passOneTick_59 rfl (by decide) (by decide) ?_
    refine rx_goto C.1 (pc := 62) d_Net_passOneTick_62 (tgt := 45) rfl ?_
    refine rx_iload_n C.1 (pc := 45) d_Net_passOneTick_45 rfl ?_
    refine rx_iconst C.1 (v := 2) (pc := 46) d_Net_passOneTick_46 (by decide) ?_
    refine rx_icmp_ge C.1 (pc := 47) d_Net_passOneTick_47 (tgt := 65) rfl (fun h9 => absurd h9 (by decide)) (fun _ => ?_)
    refine rx_aload_n C.1 (pc := 50) d_Net_passOneTick_50 rfl ?_
    refine g_Net_31 D b ca C (pc := 51) d_Net_passOneTick_51 ?_
    refine rx_iload_n C.1 (pc := 54) d_Net_passOneTick_54 rfl ?_
    refine rx_ald_mobs D b ca C (pc := 55) d_Net_passOneTick_55 (by first | assumption | exact rx_in2 (by assumption) | exact rx_v02 | exact rx_v12 | exact vp_in_iff.mpr (by decide)) ?_
    refine q_Net_171 D b ca C (by first | assumption | (constructor <;> omega) | omega | decide) (pc := 56) d_Net_passOneTick_56 (c_Mob_notice l D b ca (by first | assumption | (constructor <;> omega) | omega | decide) ) ⟨Nat.le_of_ble_eq_true rfl, Nat.le_of_ble_eq_true rfl⟩ ⟨Nat.zero_le _, Nat.zero_le _⟩ (Nat.le_of_ble_eq_true rfl) ?_
    refine rx_iinc C.1 (v := 2) (pc := 59) d_Net_passOneTick_59 rfl (by decide) (by decide) ?_
    refine rx_goto C.1 (pc := 62) d_Net_passOneTick_62 (tgt := 45) rfl ?_
    refine rx_iload_n C.1 (pc := 45) d_Net_passOneTick_45 rfl ?_
    refine rx_iconst C.1 (v := 2) (pc := 46) d_Net_passOneTick_46 (by decide) ?_
    refine rx_icmp_ge C.1 (pc := 47) d_Net_passOneTick_47 (tgt := 65) rfl (fun _ => ?_) (fun h9 => absurd (by decide) h9) 
    refine rx_iconst C.1 (v := 0) (pc := 65) d_Net_passOneTick_65 (by decide) ?_
    refine rx_istore_n C.1 (pc := 66) d_Net_passOneTick_66 (by decide) ?_
    refine rx_iload_n C.1 (pc := 67) d_Net_passOneTick_67 rfl ?_
    refine rx_iconst C.1 (v := 2) (pc := 68) d_Net_passOneTick_68 (by decide) ?_
    refine rx_icmp_ge C.1 (pc := 69) d_Net_passOneTick_69 (tgt := 86) rfl (fun h9 => absurd h9 (by decide)) (fun _ => ?_)
    refine rx_aload_n C.1 (pc := 72) d_Net_passOneTick_72 rfl ?_
    refine g_Net_59 D b ca C (pc := 73) d_Net_passOneTick_73 ?_
    refine rx_iload_n C.1 (pc := 76) d_Net_passOneTick_76 rfl ?_
    refine q_Net_174 D b ca C (pc := 77) d_Net_passOneTick_77 (c_Corr_resendIfDue l D b ca (by first | assumption | exact rx_iM0 | exact rx_iM1 | (constructor <;> omega))) ⟨Nat.le_of_ble_eq_true rfl, Nat.le_of_ble_eq_true rfl⟩ ⟨Nat.zero_le _, Nat.zero_le _⟩ (Nat.le_of_ble_eq_true rfl) ?_
    refine rx_iinc C.1 (v := 1) (pc := 80) d_Net_passOneTick_80 rfl (by decide) (by decide) ?_
    refine rx_goto C.1 (pc := 83) d_Net_passOneTick_83 (tgt := 67) rfl ?_
    refine rx_iload_n C.1 (pc := 67) d_Net_passOneTick_67 rfl ?_
    refine rx_iconst C.1 (v := 2) (pc := 68) d_Net_passOneTick_68 (by decide) ?_
    refine rx_icmp_ge C.1 (pc := 69) d_Net_passOneTick_69 (tgt := 86) rfl (fun h9 => absurd h9 (by decide)) (fun _ => ?_)
    refine rx_aload_n C.1 (pc := 72) d_Net_passOneTick_72 rfl ?_
    refine g_Net_59 D b ca C (pc := 73) d_Net_passOneTick_73 ?_
    refine rx_iload_n C.1 (pc := 76) d_Net_passOneTick_76 rfl ?_
    refine q_Net_174 D b ca C (pc := 77) d_Net_passOneTick_77 (c_Corr_resendIfDue l D b ca (by first | assumption | exact rx_iM0 | exact rx_iM1 | (constructor <;> omega))) ⟨Nat.le_of_ble_eq_true rfl, Nat.le_of_ble_eq_true rfl⟩ ⟨Nat.zero_le _, Nat.zero_le _⟩ (Nat.le_of_ble_eq_true rfl) ?_
    refine rx_iinc C.1 (v := 2) (pc := 80) d_Net_passOneTick_80 rfl (by decide) (by decide) ?_
    refine rx_goto C.1 (pc := 83) d_Net_passOneTick_83 (tgt := 67) rfl ?_
    refine rx_iload_n C.1 (pc := 67) d_Net_passOneTick_67 rfl ?_
    refine rx_iconst C.1 (v := 2) (pc := 68) d_Net_passOneTick_68 (by decide) ?_
    refine rx_icmp_ge C.1 (pc := 69) d_Net_passOneTick_69 (tgt := 86) rfl (fun _ => ?_) (fun h9 => absurd (by decide) h9) 
    exact rx_vret C (pc := 86) d_Net_passOneTick_86 (by unfold sp_Net_passOneTick; first | (simp only [if_pos h1]; done) | (simp only [if_pos h1]; rfl))
