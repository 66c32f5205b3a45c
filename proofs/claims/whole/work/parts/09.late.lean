def sp_Corr_resendIfDue (σ : rMem) (m : Int32) : rMem := if (σ 68 m.toNatClampNeg) ≤ (σ 69 m.toNatClampNeg) then σ else (if 5 ≤ ((σ 1 2) - (σ 70 m.toNatClampNeg)) then (let m1 := rs_Corr ((σ 68 m.toNatClampNeg).toInt + 1 - (σ 69 m.toNatClampNeg + 1).toInt).toNat σ m (σ 69 m.toNatClampNeg + 1); let m2 := rx_wr m1 70 m.toNatClampNeg (m1 1 2); m2) else σ)
set_option maxHeartbeats 4000000 in
set_option maxRecDepth 100000 in
theorem c_Corr_resendIfDue (l : Launch) (D : va_G) (b : Nat) (ca : Nat → ClassId) {σ : rMem} {m : Int32} (hm : rx_iM m) : rx_C l (rx_fin D b ca) y_Corr_resendIfDue b_Corr_resendIfDue 3 none (rx_rm 3) [.ref (rg_A (rx_fin D b ca) 66), .int m] σ none (sp_Corr_resendIfDue σ m) := by
  refine rx_of (lo := [(0, .ref (rg_A (rx_fin D b ca) 66)), (1, .int m)]) (by decide) (rx_fin_D D b ca) rfl (Nat.le_of_ble_eq_true rfl) rfl ?_
  intro p e s mm below meth c C
  refine rx_aload_n C.1 (pc := 0) d_Corr_resendIfDue_0 rfl ?_
  refine g_Corr_19 D b ca C (pc := 1) d_Corr_resendIfDue_1 ?_
  refine rx_iload_n C.1 (pc := 4) d_Corr_resendIfDue_4 rfl ?_
  refine rx_iald C (i := 68) (n := 2) (pc := 5) d_Corr_resendIfDue_5 (rx_lt (by decide)) rfl (by first | assumption | exact rx_in2 (by assumption) | exact rx_v02 | exact rx_v12 | exact vp_in_iff.mpr (by decide)) ?_
  refine rx_aload_n C.1 (pc := 6) d_Corr_resendIfDue_6 rfl ?_
  refine g_Corr_22 D b ca C (pc := 7) d_Corr_resendIfDue_7 ?_
  refine rx_iload_n C.1 (pc := 10) d_Corr_resendIfDue_10 rfl ?_
  refine rx_iald C (i := 69) (n := 2) (pc := 11) d_Corr_resendIfDue_11 (rx_lt (by decide)) rfl (by first | assumption | exact rx_in2 (by assumption) | exact rx_v02 | exact rx_v12 | exact vp_in_iff.mpr (by decide)) ?_
  refine rx_icmp_le C.1 (pc := 12) d_Corr_resendIfDue_12 (tgt := 33) rfl (fun h1 => ?_) (fun h1 => ?_)
  ·
    exact rx_vret C (pc := 33) d_Corr_resendIfDue_33 (by unfold sp_Corr_resendIfDue; first | (simp only [if_pos h1]; done) | (simp only [if_pos h1]; rfl))
  ·
    refine rx_aload_n C.1 (pc := 15) d_Corr_resendIfDue_15 rfl ?_
    refine g_Corr_9 D b ca C (pc := 16) d_Corr_resendIfDue_16 ?_
    refine g_Corr_34 D b ca C (pc := 19) d_Corr_resendIfDue_19 ?_
    refine rx_aload_n C.1 (pc := 22) d_Corr_resendIfDue_22 rfl ?_
    refine g_Corr_25 D b ca C (pc := 23) d_Corr_resendIfDue_23 ?_
    refine rx_iload_n C.1 (pc := 26) d_Corr_resendIfDue_26 rfl ?_
    refine rx_iald C (i := 70) (n := 2) (pc := 27) d_Corr_resendIfDue_27 (rx_lt (by decide)) rfl (by first | assumption | exact rx_in2 (by assumption) | exact rx_v02 | exact rx_v12 | exact vp_in_iff.mpr (by decide)) ?_
    refine rx_isub C.1 (pc := 28) d_Corr_resendIfDue_28 ?_
    refine rx_iconst C.1 (v := 5) (pc := 29) d_Corr_resendIfDue_29 (by decide) ?_
    refine rx_icmp_ge C.1 (pc := 30) d_Corr_resendIfDue_30 (tgt := 34) rfl (fun h2 => ?_) (fun h2 => ?_)
    ·
      refine rx_aload_n C.1 (pc := 34) d_Corr_resendIfDue_34 rfl ?_
      refine g_Corr_22 D b ca C (pc := 35) d_Corr_resendIfDue_35 ?_
      refine rx_iload_n C.1 (pc := 38) d_Corr_resendIfDue_38 rfl ?_
      refine rx_iald C (i := 69) (n := 2) (pc := 39) d_Corr_resendIfDue_39 (rx_lt (by decide)) rfl (by first | assumption | exact rx_in2 (by assumption) | exact rx_v02 | exact rx_v12 | exact vp_in_iff.mpr (by decide)) ?_
      refine rx_iconst C.1 (v := 1) (pc := 40) d_Corr_resendIfDue_40 (by decide) ?_
      refine rx_iadd C.1 (pc := 41) d_Corr_resendIfDue_41 ?_
      refine rx_istore_n C.1 (pc := 42) d_Corr_resendIfDue_42 (by decide) ?_
      refine rx_loc C.1 (rx_sub_all (lo' := [(2, .int (σ 69 m.toNatClampNeg + 1)), (0, .ref (rg_A (rx_fin D b ca) 66)), (1, .int m)]) ⟨rfl, rfl, rfl, trivial⟩) ?_
      refine lp_Corr_resend l D b ca hm C _ _ _ (Nat.le_refl _) (fun k' => ?_)
      refine rx_aload_n C.1 (pc := 71) d_Corr_resendIfDue_71 rfl ?_
      refine g_Corr_25 D b ca C (pc := 72) d_Corr_resendIfDue_72 ?_
      refine rx_iload_n C.1 (pc := 75) d_Corr_resendIfDue_75 rfl ?_
      refine rx_aload_n C.1 (pc := 76) d_Corr_resendIfDue_76 rfl ?_
      refine g_Corr_9 D b ca C (pc := 77) d_Corr_resendIfDue_77 ?_
      refine g_Corr_34 D b ca C (pc := 80) d_Corr_resendIfDue_80 ?_
      refine rx_iast C (i := 70) (n := 2) (pc := 83) d_Corr_resendIfDue_83 (rx_lt (by decide)) (fun _ => rfl) (by first | assumption | exact rx_in2 (by assumption) | exact rx_v02 | exact rx_v12 | exact vp_in_iff.mpr (by decide)) (rx_SI_wr (by omega)) ?_
      exact rx_vret C (pc := 84) d_Corr_resendIfDue_84 (by unfold sp_Corr_resendIfDue; first | (simp only [if_neg h1, if_pos h2]; done) | (simp only [if_neg h1, if_pos h2]; rfl))
    ·
      exact rx_vret C (pc := 33) d_Corr_resendIfDue_33 (by unfold sp_Corr_resendIfDue; first | (simp only [if_neg h1, if_neg h2]; done) | (simp only [if_neg h1, if_neg h2]; rfl))

def sp_Wire_remove (σ : rMem) (i : Int32) : rMem := let m1 := sh_mem σ i.toNatClampNeg (σ 1 1).toNatClampNeg; let m2 := rx_wr m1 1 1 ((m1 1 1) - 1); let m3 := rx_wr m2 2 (m2 1 1).toNatClampNeg (σ 2 i.toNatClampNeg); m3
set_option maxHeartbeats 4000000 in
set_option maxRecDepth 100000 in
theorem c_Wire_remove (l : Launch) (D : va_G) (b : Nat) (ca : Nat → ClassId) {σ : rMem} {i : Int32} (hi : 0 ≤ i.toInt ∧ i.toInt < (σ 1 1).toInt) : rx_C l (rx_fin D b ca) y_Wire_remove b_Wire_remove 4 none (rx_rm 0) [.ref (rg_A (rx_fin D b ca) 1), .int i] σ none (sp_Wire_remove σ i) := by
  refine rx_of (lo := [(0, .ref (rg_A (rx_fin D b ca) 1)), (1, .int i)]) (by decide) (rx_fin_D D b ca) rfl (Nat.le_of_ble_eq_true rfl) rfl ?_
  intro p e s mm below meth c C
  refine rx_si (fun hI => ?_)
  have hi41 := rm_in hI hi
  refine rx_aload_n C.1 (pc := 0) d_Wire_remove_0 rfl ?_
  refine g_Wire_11 D b ca C (pc := 1) d_Wire_remove_1 ?_
  refine rx_iload_n C.1 (pc := 4) d_Wire_remove_4 rfl ?_
  refine rx_ald_rows D b ca C (pc := 5) d_Wire_remove_5 hi41 ?_
  refine rx_astore_n C.1 (pc := 6) d_Wire_remove_6 (by decide) ?_
  refine rx_iload_n C.1 (pc := 7) d_Wire_remove_7 rfl ?_
  refine rx_iconst C.1 (v := 1) (pc := 8) d_Wire_remove_8 (by decide) ?_
  refine rx_iadd C.1 (pc := 9) d_Wire_remove_9 ?_
  refine rx_istore_n C.1 (pc := 10) d_Wire_remove_10 (by decide) ?_
  refine rx_loc C.1 (rx_sub_all (lo' := [(3, .int (i + 1)), (2, .ref (rg_A (rx_fin D b ca) (2 + (σ 2 i.toNatClampNeg).toNatClampNeg))), (0, .ref (rg_A (rx_fin D b ca) 1)), (1, .int i)]) ⟨rfl, rfl, rfl, rfl, trivial⟩) ?_
  refine lp_Wire_remove l D b ca C hI hi (fun k' => ?_)
  refine rx_aload_n C.1 (pc := 39) d_Wire_remove_39 rfl ?_
  refine rx_dup C.1 (pc := 40) d_Wire_remove_40 rfl ?_
  refine g_Wire_18 D b ca C (pc := 41) d_Wire_remove_41 ?_
  refine rx_iconst C.1 (v := 1) (pc := 44) d_Wire_remove_44 (by decide) ?_
  refine rx_isub C.1 (pc := 45) d_Wire_remove_45 ?_
  have hz1 := rm_sz (k := i.toNatClampNeg) (n := (σ 1 1).toNatClampNeg) hI hi
  refine p_Wire_18 D b ca C (pc := 46) d_Wire_remove_46 (by assumption) ?_
  refine rx_aload_n C.1 (pc := 49) d_Wire_remove_49 rfl ?_
  refine g_Wire_11 D b ca C (pc := 50) d_Wire_remove_50 ?_
  refine rx_aload_n C.1 (pc := 53) d_Wire_remove_53 rfl ?_
  refine g_Wire_18 D b ca C (pc := 54) d_Wire_remove_54 ?_
  refine rx_aload_n C.1 (pc := 57) d_Wire_remove_57 rfl ?_
  refine rx_ast_rows D b ca C (pc := 58) d_Wire_remove_58 (rm_ix hI hi) (hI.2.1 _ (rx_vn hi41)) ?_
  exact rx_vret C (pc := 59) d_Wire_remove_59 (by first | rfl | (unfold sp_Wire_remove; rfl))

def sp_Corr_receive (σ : rMem) (r : Nat) : rMem := if (σ r 0) = 6 then (if (σ r 4) ≤ (σ 69 (σ r 3).toNatClampNeg) then σ else (let m1 := rx_wr σ 69 (σ r 3).toNatClampNeg (σ r 4); let m2 := rx_wr m1 70 (σ r 3).toNatClampNeg (m1 1 2); let m3 := sp_Corr_pump m2 (σ r 3); m3)) else σ
set_option maxHeartbeats 4000000 in
set_option maxRecDepth 100000 in
theorem c_Corr_receive (l : Launch) (D : va_G) (b : Nat) (ca : Nat → ClassId) {σ : rMem} {r : Nat} (hr : 3 ≤ r ∧ r < 45) (hm : rx_iM (σ r 3)) : rx_C l (rx_fin D b ca) y_Corr_receive b_Corr_receive 3 none (rx_rm 4) [.ref (rg_A (rx_fin D b ca) 66), .ref (rg_A (rx_fin D b ca) r)] σ none (sp_Corr_receive σ r) := by
  refine rx_of (lo := [(0, .ref (rg_A (rx_fin D b ca) 66)), (1, .ref (rg_A (rx_fin D b ca) r))]) (by decide) (rx_fin_D D b ca) rfl (Nat.le_of_ble_eq_true rfl) rfl ?_
  intro p e s mm below meth c C
  refine rx_aload_n C.1 (pc := 0) d_Corr_receive_0 rfl ?_
  refine g_Corr_38 D b ca C (by first | assumption | (constructor <;> omega) | omega | decide) (pc := 1) d_Corr_receive_1 ?_
  refine rx_istore_n C.1 (pc := 4) d_Corr_receive_4 (by decide) ?_
  refine rx_aload_n C.1 (pc := 5) d_Corr_receive_5 rfl ?_
  refine g_Corr_43 D b ca C (by first | assumption | (constructor <;> omega) | omega | decide) (pc := 6) d_Corr_receive_6 ?_
  refine rx_bipush C.1 (v := 6) (pc := 9) d_Corr_receive_9 (by decide) ?_
  refine rx_icmp_ne C.1 (pc := 11) d_Corr_receive_11 (tgt := 55) rfl (fun h1 => ?_) (fun h1 => ?_)
  ·
    exact rx_vret C (pc := 55) d_Corr_receive_55 (by unfold sp_Corr_receive; first | (simp only [if_neg h1]; done) | (simp only [if_neg h1]; rfl))
  ·
    refine rx_aload_n C.1 (pc := 14) d_Corr_receive_14 rfl ?_
    refine g_Corr_46 D b ca C (by first | assumption | (constructor <;> omega) | omega | decide) (pc := 15) d_Corr_receive_15 ?_
    refine rx_aload_n C.1 (pc := 18) d_Corr_receive_18 rfl ?_
    refine g_Corr_22 D b ca C (pc := 19) d_Corr_receive_19 ?_
    refine rx_iload_n C.1 (pc := 22) d_Corr_receive_22 rfl ?_
    refine rx_iald C (i := 69) (n := 2) (pc := 23) d_Corr_receive_23 (rx_lt (by decide)) rfl (by first | assumption | exact rx_in2 (by assumption) | exact rx_v02 | exact rx_v12 | exact vp_in_iff.mpr (by decide)) ?_
    refine rx_icmp_le C.1 (pc := 24) d_Corr_receive_24 (tgt := 55) rfl (fun h2 => ?_) (fun h2 => ?_)
    ·
      exact rx_vret C (pc := 55) d_Corr_receive_55 (by unfold sp_Corr_receive; first | (simp only [if_pos h1, if_pos h2]; done) | (simp only [if_pos h1, if_pos h2]; rfl))
    ·
      refine rx_aload_n C.1 (pc := 27) d_Corr_receive_27 rfl ?_
      refine g_Corr_22 D b ca C (pc := 28) d_Corr_receive_28 ?_
      refine rx_iload_n C.1 (pc := 31) d_Corr_receive_31 rfl ?_
      refine rx_aload_n C.1 (pc := 32) d_Corr_receive_32 rfl ?_
      refine g_Corr_46 D b ca C (by first | assumption | (constructor <;> omega) | omega | decide) (pc := 33) d_Corr_receive_33 ?_
      refine rx_iast C (i := 69) (n := 2) (pc := 36) d_Corr_receive_36 (rx_lt (by decide)) (fun _ => rfl) (by first | assumption | exact rx_in2 (by assumption) | exact rx_v02 | exact rx_v12 | exact vp_in_iff.mpr (by decide)) (rx_SI_wr (by omega)) ?_
      refine rx_aload_n C.1 (pc := 37) d_Corr_receive_37 rfl ?_
      refine g_Corr_25 D b ca C (pc := 38) d_Corr_receive_38 ?_
      refine rx_iload_n C.1 (pc := 41) d_Corr_receive_41 rfl ?_
      refine rx_aload_n C.1 (pc := 42) d_Corr_receive_42 rfl ?_
      refine g_Corr_9 D b ca C (pc := 43) d_Corr_receive_43 ?_
      refine g_Corr_34 D b ca C (pc := 46) d_Corr_receive_46 ?_
      refine rx_iast C (i := 70) (n := 2) (pc := 49) d_Corr_receive_49 (rx_lt (by decide)) (fun _ => rfl) (by first | assumption | exact rx_in2 (by assumption) | exact rx_v02 | exact rx_v12 | exact vp_in_iff.mpr (by decide)) (rx_SI_wr (by omega)) ?_
      refine rx_aload_n C.1 (pc := 50) d_Corr_receive_50 rfl ?_
      refine rx_iload_n C.1 (pc := 51) d_Corr_receive_51 rfl ?_
      refine q_Corr_49 D b ca C (pc := 52) d_Corr_receive_52 (c_Corr_pump l D b ca (by first | assumption | exact rx_iM0 | exact rx_iM1 | (constructor <;> omega))) ⟨Nat.le_of_ble_eq_true rfl, Nat.le_of_ble_eq_true rfl⟩ ⟨Nat.zero_le _, Nat.zero_le _⟩ (Nat.le_of_ble_eq_true rfl) ?_
      exact rx_vret C (pc := 55) d_Corr_receive_55 (by unfold sp_Corr_receive; first | (simp only [if_pos h1, if_neg h2]; done) | (simp only [if_pos h1, if_neg h2]; rfl))
