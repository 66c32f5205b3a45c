def lw_ok (Rel : Nat → rMem → Prop) : Prop := ok_key Rel ∧ ok_move Rel ∧ ok_tick Rel ∧ ok_say Rel ∧ ok_deliver Rel ∧ ok_drop Rel ∧ ok_duplicate Rel ∧ ok_inject Rel ∧ ok_messages Rel ∧ ok_message Rel ∧ ok_place Rel ∧ ok_registered Rel ∧ ok_open Rel ∧ ok_binding Rel ∧ ok_visit Rel ∧ ok_count Rel
theorem lw_vin {L j : Nat} (t : Nat) (ht : t ≤ 6) (hj : 3 + 7 * j + 7 ≤ L) (hL : L ≤ 3587) : vp_in (nI (3 + 7 * j) + nI t) L := by
  rw [nI_add]
  exact vp_in_nI (by omega) (by omega)
set_option maxHeartbeats 4000000 in
set_option maxRecDepth 100000 in
theorem lw_loop (l : Launch) (D : va_G) (b : Nat) (ca : Nat → ClassId) {p : Program} {e : Env} {s : State} {mm : MethodId} {below : List Frame} {meth : Method} {c : Code} {Q : State → Prop} {b0 L : Nat} {xs : Nat → Int32} {Rel : Nat → rMem → Prop} (hok : lw_ok Rel) (C : rx_Cw p s mm #[.ref b0] meth c R_Law code 4 (some .boolean) (rx_fin D b ca)) (hX : va_X b0 L xs s s.heap) (hbl : b0 < s.heap.size) (hbA : ¬ rg_O (rx_fin D b ca) b0) (hL : L ≤ 3587)
    (kx : ∀ (j : Nat) (σ : rMem), rx_X p l e room_1 s mm #[.ref b0] below meth c (rg_O (rx_fin D b ca)) s.heap 96 993 Q 4 (rx_m (rx_fin D b ca) σ) 606 [(3, .int (nI (3 + 7 * j))), (2, .ref (rg_A (rx_fin D b ca) 71)), (1, .ref (rg_A (rx_fin D b ca) 0)), (0, .ref b0)] []) :
    ∀ (n j : Nat) (σ : rMem), j + n = 512 → Rel j σ → rx_X p l e room_1 s mm #[.ref b0] below meth c (rg_O (rx_fin D b ca)) s.heap 96 993 Q 4 (rx_m (rx_fin D b ca) σ) 48 [(3, .int (nI (3 + 7 * j))), (2, .ref (rg_A (rx_fin D b ca) 71)), (1, .ref (rg_A (rx_fin D b ca) 0)), (0, .ref b0)] [] := by
  intro n
  induction n with
  | zero =>
    intro j σ hn hR
    refine rx_iload_n C.1 (pc := 48) d_Law_law_48 rfl ?_
    refine rx_aload_n C.1 (pc := 49) d_Law_law_49 rfl ?_
    refine rx_slen C.1 hX hbl hbA (pc := 50) d_Law_law_50 ?_
    refine rx_bipush C.1 (v := 7) (pc := 51) d_Law_law_51 (by decide) ?_
    refine rx_isub C.1 (pc := 53) d_Law_law_53 ?_
    refine rx_icmp_gt C.1 (pc := 54) d_Law_law_54 (tgt := 606) rfl (fun _ => kx j σ) (fun h => absurd ?_ h)
    have e7 : (7 : Int32).toInt = 7 := rfl
    have eL : (Int32.ofNat L).toInt = (L : Int) := nI_toInt (by omega)
    rw [rx_ltI, rx_subI (by rw [eL, e7]; omega) (by rw [eL, e7]; omega), eL, e7, nI_toInt (by omega)]
    omega
  | succ n ih =>
    intro j σ hn hR
    refine rx_iload_n C.1 (pc := 48) d_Law_law_48 rfl ?_
    refine rx_aload_n C.1 (pc := 49) d_Law_law_49 rfl ?_
    refine rx_slen C.1 hX hbl hbA (pc := 50) d_Law_law_50 ?_
    refine rx_bipush C.1 (v := 7) (pc := 51) d_Law_law_51 (by decide) ?_
    refine rx_isub C.1 (pc := 53) d_Law_law_53 ?_
    refine rx_icmp_gt C.1 (pc := 54) d_Law_law_54 (tgt := 606) rfl (fun _ => kx j σ) (fun h => ?_)
    have hj : 3 + 7 * j + 7 ≤ L := by
      have e7 : (7 : Int32).toInt = 7 := rfl
      have eL : (Int32.ofNat L).toInt = (L : Int) := nI_toInt (by omega)
      rw [rx_ltI, rx_subI (by rw [eL, e7]; omega) (by rw [eL, e7]; omega), eL, e7, nI_toInt (by omega)] at h
      omega
    have hj5 : j < 512 := by omega
    have hnext : ∀ σ' : rMem, Rel (j + 1) σ' → rx_X p l e room_1 s mm #[.ref b0] below meth c (rg_O (rx_fin D b ca)) s.heap 96 993 Q 4 (rx_m (rx_fin D b ca) σ') 600 [(3, .int (nI (3 + 7 * j))), (2, .ref (rg_A (rx_fin D b ca) 71)), (1, .ref (rg_A (rx_fin D b ca) 0)), (0, .ref b0)] [] := by
      intro σ' hR'
      refine rx_iinc C.1 (v := nI (3 + 7 * (j + 1))) (pc := 600) d_Law_law_600 rfl ?_ (by decide) ?_
      · show nI (3 + 7 * j) + nI 7 = _
        rw [nI_add, show 3 + 7 * j + 7 = 3 + 7 * (j + 1) by omega]
      refine rx_goto C.1 (pc := 603) d_Law_law_603 (tgt := 48) rfl ?_
      refine rx_loc C.1 (rx_sub_all (lo' := [(3, .int (nI (3 + 7 * (j + 1)))), (2, .ref (rg_A (rx_fin D b ca) 71)), (1, .ref (rg_A (rx_fin D b ca) 0)), (0, .ref b0)]) ⟨rfl, rfl, rfl, rfl, trivial⟩) ?_
      exact ih (j + 1) σ' (by omega) hR'
    have hv0 : vp_in (nI (3 + 7 * j)) L := vp_in_nI (by omega) (by omega)
    have hv1 : vp_in (nI (3 + 7 * j) + 1) L := lw_vin 1 (by omega) hj hL
    have hv2 : vp_in (nI (3 + 7 * j) + 2) L := lw_vin 2 (by omega) hj hL
    have hv3 : vp_in (nI (3 + 7 * j) + 3) L := lw_vin 3 (by omega) hj hL
    have hv4 : vp_in (nI (3 + 7 * j) + 4) L := lw_vin 4 (by omega) hj hL
    have hv5 : vp_in (nI (3 + 7 * j) + 5) L := lw_vin 5 (by omega) hj hL
    have hv6 : vp_in (nI (3 + 7 * j) + 6) L := lw_vin 6 (by omega) hj hL
    refine rx_aload_n C.1 (pc := 57) d_Law_law_57 rfl ?_
    refine rx_iload_n C.1 (pc := 58) d_Law_law_58 rfl ?_
    refine rx_sld C.1 hX hbl hbA hv0 (pc := 59) d_Law_law_59 ?_
    refine rx_bipush C.1 (v := 15) (pc := 60) d_Law_law_60 (by decide) ?_
    refine rx_iand C.1 (pc := 62) d_Law_law_62 ?_
    obtain ⟨k, hk, he⟩ := pk_andE (xs (nI (3 + 7 * j)).toNatClampNeg) (m := 15) 4 rfl
    obtain ⟨k_key, k_move, k_tick, k_say, k_deliver, k_drop, k_duplicate, k_inject, k_messages, k_message, k_place, k_registered, k_open, k_binding, k_visit, k_count⟩ := hok
    match k, hk, he with
    | 0, _, he =>
      refine rx_tin C.1 (v := 0) he (pc := 63) (tgt := 140) d_Law_law_63 (by decide) (by decide) rfl rfl ?_
      obtain ⟨q3, q4⟩ := k_key j σ (xs (nI (3 + 7 * j) + 1).toNatClampNeg) (xs (nI (3 + 7 * j) + 2).toNatClampNeg) (xs (nI (3 + 7 * j) + 3).toNatClampNeg) hR hj5
      exact tn_key l D b ca C hX hbl hbA hv1 hv2 hv3 q3 (hnext _ q4)
    | 1, _, he =>
      refine rx_tin C.1 (v := 1) he (pc := 63) (tgt := 183) d_Law_law_63 (by decide) (by decide) rfl rfl ?_
      obtain ⟨q3, q4⟩ := k_move j σ (xs (nI (3 + 7 * j) + 1).toNatClampNeg) (xs (nI (3 + 7 * j) + 2).toNatClampNeg) hR hj5
      exact tn_move l D b ca C hX hbl hbA hv1 hv2 q3 (hnext _ q4)
    | 2, _, he =>
      refine rx_tin C.1 (v := 2) he (pc := 63) (tgt := 216) d_Law_law_63 (by decide) (by decide) rfl rfl ?_
      obtain ⟨q3, q4⟩ := k_tick j σ (xs (nI (3 + 7 * j) + 1).toNatClampNeg) hR hj5
      exact tn_tick l D b ca C hX hbl hbA hv1 q3 (hnext _ q4)
    | 3, _, he =>
      refine rx_tin C.1 (v := 3) he (pc := 63) (tgt := 239) d_Law_law_63 (by decide) (by decide) rfl rfl ?_
      obtain ⟨q3, q4⟩ := k_say j σ (xs (nI (3 + 7 * j) + 1).toNatClampNeg) hR hj5
      exact tn_say l D b ca C hX hbl hbA hv1 q3 (hnext _ q4)
    | 4, _, he =>
      refine rx_tin C.1 (v := 4) he (pc := 63) (tgt := 262) d_Law_law_63 (by decide) (by decide) rfl rfl ?_
      obtain ⟨q1, q2, q3, q4⟩ := k_deliver j σ (xs (nI (3 + 7 * j) + 1).toNatClampNeg) hR hj5
      exact tn_deliver l D b ca C hX hbl hbA hv1 q1 q2 q3 (hnext _ q4)
    | 5, _, he =>
      refine rx_tin C.1 (v := 5) he (pc := 63) (tgt := 285) d_Law_law_63 (by decide) (by decide) rfl rfl ?_
      obtain ⟨q3, q4⟩ := k_drop j σ (xs (nI (3 + 7 * j) + 1).toNatClampNeg) hR hj5
      exact tn_drop l D b ca C hX hbl hbA hv1 q3 (hnext _ q4)
    | 6, _, he =>
      refine rx_tin C.1 (v := 6) he (pc := 63) (tgt := 308) d_Law_law_63 (by decide) (by decide) rfl rfl ?_
      obtain ⟨q3, q4⟩ := k_duplicate j σ (xs (nI (3 + 7 * j) + 1).toNatClampNeg) hR hj5
      exact tn_duplicate l D b ca C hX hbl hbA hv1 q3 (hnext _ q4)
    | 7, _, he =>
      refine rx_tin C.1 (v := 7) he (pc := 63) (tgt := 331) d_Law_law_63 (by decide) (by decide) rfl rfl ?_
      obtain ⟨q3, q4⟩ := k_inject j σ (xs (nI (3 + 7 * j) + 1).toNatClampNeg) (xs (nI (3 + 7 * j) + 2).toNatClampNeg) (xs (nI (3 + 7 * j) + 3).toNatClampNeg) (xs (nI (3 + 7 * j) + 4).toNatClampNeg) (xs (nI (3 + 7 * j) + 5).toNatClampNeg) (xs (nI (3 + 7 * j) + 6).toNatClampNeg) hR hj5
      exact tn_inject l D b ca C hX hbl hbA hv1 hv2 hv3 hv4 hv5 hv6 q3 (hnext _ q4)
    | 8, _, he =>
      refine rx_tin C.1 (v := 8) he (pc := 63) (tgt := 406) d_Law_law_63 (by decide) (by decide) rfl rfl ?_
      obtain ⟨q3, q4⟩ := k_messages j σ  hR hj5
      exact tn_messages l D b ca C hX hbl hbA  q3 (hnext _ q4)
    | 9, _, he =>
      refine rx_tin C.1 (v := 9) he (pc := 63) (tgt := 419) d_Law_law_63 (by decide) (by decide) rfl rfl ?_
      obtain ⟨q3, q4⟩ := k_message j σ (xs (nI (3 + 7 * j) + 1).toNatClampNeg) hR hj5
      exact tn_message l D b ca C hX hbl hbA hv1 q3 (hnext _ q4)
    | 10, _, he =>
      refine rx_tin C.1 (v := 10) he (pc := 63) (tgt := 442) d_Law_law_63 (by decide) (by decide) rfl rfl ?_
      obtain ⟨q3, q4⟩ := k_place j σ (xs (nI (3 + 7 * j) + 1).toNatClampNeg) hR hj5
      exact tn_place l D b ca C hX hbl hbA hv1 q3 (hnext _ q4)
    | 11, _, he =>
      refine rx_tin C.1 (v := 11) he (pc := 63) (tgt := 465) d_Law_law_63 (by decide) (by decide) rfl rfl ?_
      obtain ⟨q3, q4⟩ := k_registered j σ (xs (nI (3 + 7 * j) + 1).toNatClampNeg) hR hj5
      exact tn_registered l D b ca C hX hbl hbA hv1 q3 (hnext _ q4)
    | 12, _, he =>
      refine rx_tin C.1 (v := 12) he (pc := 63) (tgt := 488) d_Law_law_63 (by decide) (by decide) rfl rfl ?_
      obtain ⟨q3, q4⟩ := k_open j σ (xs (nI (3 + 7 * j) + 1).toNatClampNeg) hR hj5
      exact tn_open l D b ca C hX hbl hbA hv1 q3 (hnext _ q4)
    | 13, _, he =>
      refine rx_tin C.1 (v := 13) he (pc := 63) (tgt := 511) d_Law_law_63 (by decide) (by decide) rfl rfl ?_
      obtain ⟨q3, q4⟩ := k_binding j σ (xs (nI (3 + 7 * j) + 1).toNatClampNeg) hR hj5
      exact tn_binding l D b ca C hX hbl hbA hv1 q3 (hnext _ q4)
    | 14, _, he =>
      refine rx_tin C.1 (v := 14) he (pc := 63) (tgt := 534) d_Law_law_63 (by decide) (by decide) rfl rfl ?_
      obtain ⟨q3, q4⟩ := k_visit j σ (xs (nI (3 + 7 * j) + 1).toNatClampNeg) (xs (nI (3 + 7 * j) + 2).toNatClampNeg) hR hj5
      exact tn_visit l D b ca C hX hbl hbA hv1 hv2 q3 (hnext _ q4)
    | 15, _, he =>
      refine rx_tin C.1 (v := 15) he (pc := 63) (tgt := 567) d_Law_law_63 (by decide) (by decide) rfl rfl ?_
      obtain ⟨q3, q4⟩ := k_count j σ (xs (nI (3 + 7 * j) + 1).toNatClampNeg) (xs (nI (3 + 7 * j) + 2).toNatClampNeg) hR hj5
      exact tn_count l D b ca C hX hbl hbA hv1 hv2 q3 (hnext _ q4)
    | k + 16, hk, _ => exact absurd hk (by omega)
