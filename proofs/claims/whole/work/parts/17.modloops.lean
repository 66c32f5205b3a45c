/-! take's shifting -/
def sf_row (f : Nat → Int32) (lw hi : Nat) : Nat → Int32 := fun t => if lw ≤ t ∧ t < hi then f (t + 9) else f t
def sf_mem (σ : rMem) (lw hi : Nat) : rMem := fun a => if a = 72 then sf_row (σ 72) lw hi else σ a
theorem sf_ne {σ : rMem} {lw hi a : Nat} (h : a ≠ 72) : sf_mem σ lw hi a = σ a := if_neg h
theorem sf_72 {σ : rMem} {lw hi : Nat} : sf_mem σ lw hi 72 = sf_row (σ 72) lw hi := if_pos rfl
theorem sf_0 {σ : rMem} {lw : Nat} : sf_mem σ lw lw = σ := by
  funext a t
  by_cases h : a = 72
  · subst h
    rw [sf_72]
    exact if_neg (by omega)
  · rw [sf_ne h]
theorem sf_step {σ : rMem} {lw k : Nat} (h : lw ≤ k) : rx_wr (sf_mem σ lw k) 72 k (sf_mem σ lw k 72 (k + 9)) = sf_mem σ lw (k + 1) := by
  funext a t
  by_cases ha : a = 72
  · subst ha
    rw [rx_wr_at, sf_72, sf_72]
    by_cases ht : t = k
    · subst ht
      rw [if_pos ⟨rfl, rfl⟩]
      have e1 : sf_row (σ 72) lw t (t + 9) = σ 72 (t + 9) := if_neg (by omega)
      have e2 : sf_row (σ 72) lw (t + 1) t = σ 72 (t + 9) := if_pos (by omega)
      rw [e1, e2]
    · rw [if_neg (fun h => ht h.2)]
      unfold sf_row
      by_cases h2 : lw ≤ t ∧ t < k
      · rw [if_pos h2, if_pos (by omega)]
      · rw [if_neg h2, if_neg (by omega)]
  · rw [rx_wr_ne ha, sf_ne ha, sf_ne ha]
theorem tk_dec {σ : rMem} {i : Int32} (hI : rx_SI σ) (hi : 0 ≤ i.toInt ∧ i.toInt < (σ 71 4).toInt) : (σ 71 4 - 1).toInt = (σ 71 4).toInt - 1 := by
  have := hI.2.2.1
  rw [rx_subI (by rw [rx_I1]; omega) (by rw [rx_I1]; omega), rx_I1]
theorem tk_z {σ : rMem} {i : Int32} (hI : rx_SI σ) (hi : 0 ≤ i.toInt ∧ i.toInt < (σ 71 4).toInt) : 0 ≤ (σ 71 4 - 1).toInt ∧ (σ 71 4 - 1).toInt ≤ 40 := by
  have := hI.2.2.1
  rw [tk_dec hI hi]
  omega
theorem tk_z2 {σ : rMem} {i : Int32} (hI : rx_SI σ) (hi : 0 ≤ i.toInt ∧ i.toInt < (σ 71 4).toInt) : 0 ≤ i.toInt ∧ i.toInt ≤ (σ 71 4 - 1).toInt ∧ (σ 71 4 - 1).toInt ≤ 39 := by
  have := hI.2.2.1
  rw [tk_dec hI hi]
  omega
theorem pm_okM {σ : rMem} {m : Int32} (hI : rx_SI σ) (hm : rx_iM m) (h : ¬ σ 92 m.toNatClampNeg ≤ σ 93 m.toNatClampNeg) : (σ 93 m.toNatClampNeg + 1).toInt ≤ 200 := by
  have h1 := hI.2.2.2 _ (rx_j2 hm)
  rw [rx_leI] at h
  have h2 := rx_lo (σ 93 m.toNatClampNeg)
  rw [rx_addI (by rw [rx_I1]; omega) (by rw [rx_I1]; omega), rx_I1]
  omega
def st_Mod_pump (σ : rMem) (m : Int32) : rMem := if σ 92 m.toNatClampNeg ≤ σ 93 m.toNatClampNeg then σ else (if σ 94 m.toNatClampNeg + 3 ≤ σ 93 m.toNatClampNeg then σ else (let m1 := rx_wr σ 93 m.toNatClampNeg (σ 93 m.toNatClampNeg + 1); let m2 := sp_Mod_send m1 4 0 m 0 (m1 93 m.toNatClampNeg) 0 0 0 0; rx_wr m2 95 m.toNatClampNeg (m2 71 3)))

set_option maxHeartbeats 4000000 in
set_option maxRecDepth 100000 in
theorem it_Mod_take (l : Launch) (D : va_G) (b : Nat) (ca : Nat → ClassId) {p : Program} {e : Env} {s : State} {mm : MethodId} {args : Array Value} {below : List Frame} {meth : Method} {c : Code} {H0 : Heap} {Q : State → Prop} {σ : rMem} {i k : Int32} (C : rx_Cw p s mm args meth c R_Mod b_Mod_take 3 none (rx_fin D b ca)) (hk1 : ¬ 9 * σ 71 4 ≤ k → vp_in (k + 9) 369) (hk2 : ¬ 9 * σ 71 4 ≤ k → vp_in k 369)
    (kx : 9 * σ 71 4 ≤ k → rx_X p l e (rx_rm 0) s mm args below meth c (rg_O (rx_fin D b ca)) H0 0 0 Q 3 (rx_m (rx_fin D b ca) σ) 78 [(2, .int k), (0, .ref (rg_A (rx_fin D b ca) 71)), (1, .int i)] []) (kb : ¬ 9 * σ 71 4 ≤ k → rx_X p l e (rx_rm 0) s mm args below meth c (rg_O (rx_fin D b ca)) H0 0 0 Q 3 (rx_m (rx_fin D b ca) (rx_wr σ 72 k.toNatClampNeg (σ 72 (k + 9).toNatClampNeg))) 46 [(2, .int (k + 1)), (0, .ref (rg_A (rx_fin D b ca) 71)), (1, .int i)] []) : rx_X p l e (rx_rm 0) s mm args below meth c (rg_O (rx_fin D b ca)) H0 0 0 Q 3 (rx_m (rx_fin D b ca) σ) 46 [(2, .int k), (0, .ref (rg_A (rx_fin D b ca) 71)), (1, .int i)] [] := by
  refine rx_iload_n C.1 (pc := 46) d_Mod_take_46 rfl ?_
  refine rx_bipush C.1 (v := 9) (pc := 47) d_Mod_take_47 (by decide) ?_
  refine rx_aload_n C.1 (pc := 49) d_Mod_take_49 rfl ?_
  refine g_Mod_93 D b ca C (pc := 50) d_Mod_take_50 ?_
  refine rx_imul C.1 (pc := 53) d_Mod_take_53 ?_
  refine rx_icmp_ge C.1 (pc := 54) d_Mod_take_54 (tgt := 78) rfl (fun h1 => ?_) (fun h1 => ?_)
  ·
    exact kx h1
  ·
    refine rx_aload_n C.1 (pc := 57) d_Mod_take_57 rfl ?_
    refine g_Mod_7 D b ca C (pc := 58) d_Mod_take_58 ?_
    refine rx_iload_n C.1 (pc := 61) d_Mod_take_61 rfl ?_
    refine rx_aload_n C.1 (pc := 62) d_Mod_take_62 rfl ?_
    refine g_Mod_7 D b ca C (pc := 63) d_Mod_take_63 ?_
    refine rx_iload_n C.1 (pc := 66) d_Mod_take_66 rfl ?_
    refine rx_bipush C.1 (v := 9) (pc := 67) d_Mod_take_67 (by decide) ?_
    refine rx_iadd C.1 (pc := 69) d_Mod_take_69 ?_
    refine rx_iald C (i := 72) (n := 369) (pc := 70) d_Mod_take_70 (rx_lt (by decide)) rfl (hk1 h1) ?_
    refine rx_iast C (i := 72) (n := 369) (pc := 71) d_Mod_take_71 (rx_lt (by decide)) (fun _ => rfl) (hk2 h1) (rx_SI_wr (by omega)) ?_
    refine rx_iinc C.1 (v := k + 1) (pc := 72) d_Mod_take_72 rfl rfl (by decide) ?_
    refine rx_goto C.1 (pc := 75) d_Mod_take_75 (tgt := 46) rfl ?_
    refine rx_loc C.1 (rx_sub_all (lo' := [(2, .int (k + 1)), (0, .ref (rg_A (rx_fin D b ca) 71)), (1, .int i)]) ⟨rfl, rfl, rfl, trivial⟩) ?_
    exact kb h1
theorem lp_Mod_take1 (l : Launch) (D : va_G) (b : Nat) (ca : Nat → ClassId) {p : Program} {e : Env} {s : State} {mm : MethodId} {args : Array Value} {below : List Frame} {meth : Method} {c : Code} {H0 : Heap} {Q : State → Prop} {σ : rMem} {i : Int32} (C : rx_Cw p s mm args meth c R_Mod b_Mod_take 3 none (rx_fin D b ca)) (hi : 0 ≤ i.toInt ∧ i.toInt ≤ (σ 71 4).toInt ∧ (σ 71 4).toInt ≤ 39)
    (kx : ∀ k' : Int32, rx_X p l e (rx_rm 0) s mm args below meth c (rg_O (rx_fin D b ca)) H0 0 0 Q 3 (rx_m (rx_fin D b ca) (sf_mem σ (9 * i).toNatClampNeg (9 * σ 71 4).toNatClampNeg)) 78 [(2, .int k'), (0, .ref (rg_A (rx_fin D b ca) 71)), (1, .int i)] []) :
    ∀ (n : Nat) (k : Int32), 9 * (σ 71 4).toInt - k.toInt = n → 9 * i.toInt ≤ k.toInt → rx_X p l e (rx_rm 0) s mm args below meth c (rg_O (rx_fin D b ca)) H0 0 0 Q 3 (rx_m (rx_fin D b ca) (sf_mem σ (9 * i).toNatClampNeg k.toNatClampNeg)) 46 [(2, .int k), (0, .ref (rg_A (rx_fin D b ca) 71)), (1, .int i)] [] := by
  have h9 := rx_9I (x := σ 71 4) (by omega)
  have h9i := rx_9I (x := i) (by omega)
  have hiN := rx_cn (x := 9 * i) (by omega)
  intro n
  induction n with
  | zero =>
    intro k hn hk
    have hk0 : k = 9 * σ 71 4 := rx_eqI.mpr (by omega)
    subst hk0
    have hno : ∀ {P : Prop}, ¬ 9 * sf_mem σ (9 * i).toNatClampNeg (9 * σ 71 4).toNatClampNeg 71 4 ≤ 9 * σ 71 4 → P := fun h => absurd (by rw [sf_ne (by omega), rx_leI]; omega) h
    exact it_Mod_take l D b ca C (fun h => hno h) (fun h => hno h) (fun h => kx _) (fun h => hno h)
  | succ n ih =>
    intro k hn hk
    have hkN := rx_cn (x := k) (by omega)
    have hs : ¬ 9 * sf_mem σ (9 * i).toNatClampNeg k.toNatClampNeg 71 4 ≤ k := by
      rw [sf_ne (by omega), rx_leI]
      omega
    have e9 : (9 : Int32).toInt = 9 := rfl
    have hk1 : (k + 9).toInt = k.toInt + 9 := by rw [rx_addI (by rw [e9]; omega) (by rw [e9]; omega), e9]
    have hk2 : (k + 1).toInt = k.toInt + 1 := by rw [rx_addI (by rw [rx_I1]; omega) (by rw [rx_I1]; omega), rx_I1]
    have hkM := rx_cn (x := k + 9) (by omega)
    have hkP := rx_cn (x := k + 1) (by omega)
    refine it_Mod_take l D b ca C (fun h => rx_vinI (by omega) (by omega)) (fun h => rx_vinI (by omega) (by omega)) (fun h => absurd h hs) (fun h => ?_)
    rw [show (k + 9).toNatClampNeg = k.toNatClampNeg + 9 by omega, sf_step (by omega), show k.toNatClampNeg + 1 = (k + 1).toNatClampNeg by omega]
    exact ih (k + 1) (by omega) (by omega)
theorem lp_Mod_take (l : Launch) (D : va_G) (b : Nat) (ca : Nat → ClassId) {p : Program} {e : Env} {s : State} {mm : MethodId} {args : Array Value} {below : List Frame} {meth : Method} {c : Code} {H0 : Heap} {Q : State → Prop} {σ : rMem} {i : Int32} (C : rx_Cw p s mm args meth c R_Mod b_Mod_take 3 none (rx_fin D b ca)) (hi : 0 ≤ i.toInt ∧ i.toInt ≤ (σ 71 4).toInt ∧ (σ 71 4).toInt ≤ 39)
    (kx : ∀ k' : Int32, rx_X p l e (rx_rm 0) s mm args below meth c (rg_O (rx_fin D b ca)) H0 0 0 Q 3 (rx_m (rx_fin D b ca) (sf_mem σ (9 * i).toNatClampNeg (9 * σ 71 4).toNatClampNeg)) 78 [(2, .int k'), (0, .ref (rg_A (rx_fin D b ca) 71)), (1, .int i)] []) :
    rx_X p l e (rx_rm 0) s mm args below meth c (rg_O (rx_fin D b ca)) H0 0 0 Q 3 (rx_m (rx_fin D b ca) σ) 46 [(2, .int (9 * i)), (0, .ref (rg_A (rx_fin D b ca) 71)), (1, .int i)] [] := by
  have h9i := rx_9I (x := i) (by omega)
  have h := lp_Mod_take1 l D b ca C hi kx (9 * (σ 71 4).toInt - (9 * i).toInt).toNat (9 * i) (by omega) (by omega)
  rw [sf_0] at h
  exact h

def sp_Mod_take (σ : rMem) (i : Int32) : rMem := let m1 := rx_wr σ 73 (Int32.toNatClampNeg 0) (σ 72 ((9 * i) + 0).toNatClampNeg); let m2 := rx_wr m1 73 (Int32.toNatClampNeg 1) (m1 72 ((9 * i) + 1).toNatClampNeg); let m3 := rx_wr m2 73 (Int32.toNatClampNeg 2) (m2 72 ((9 * i) + 2).toNatClampNeg); let m4 := rx_wr m3 73 (Int32.toNatClampNeg 3) (m3 72 ((9 * i) + 3).toNatClampNeg); let m5 := rx_wr m4 73 (Int32.toNatClampNeg 4) (m4 72 ((9 * i) + 4).toNatClampNeg); let m6 := rx_wr m5 73 (Int32.toNatClampNeg 5) (m5 72 ((9 * i) + 5).toNatClampNeg); let m7 := rx_wr m6 73 (Int32.toNatClampNeg 6) (m6 72 ((9 * i) + 6).toNatClampNeg); let m8 := rx_wr m7 73 (Int32.toNatClampNeg 7) (m7 72 ((9 * i) + 7).toNatClampNeg); let m9 := rx_wr m8 73 (Int32.toNatClampNeg 8) (m8 72 ((9 * i) + 8).toNatClampNeg); let m10 := rx_wr m9 71 4 ((m9 71 4) - 1); let m11 := sf_mem m10 (9 * i).toNatClampNeg (9 * m10 71 4).toNatClampNeg; m11
set_option maxHeartbeats 4000000 in
set_option maxRecDepth 100000 in
theorem c_Mod_take (l : Launch) (D : va_G) (b : Nat) (ca : Nat → ClassId) {σ : rMem} {i : Int32} (hi : 0 ≤ i.toInt ∧ i.toInt < (σ 71 4).toInt) : rx_C l (rx_fin D b ca) y_Mod_take b_Mod_take 3 none (rx_rm 0) [.ref (rg_A (rx_fin D b ca) 71), .int i] σ none (sp_Mod_take σ i) := by
  refine rx_of (lo := [(0, .ref (rg_A (rx_fin D b ca) 71)), (1, .int i)]) (by decide) (rx_fin_D D b ca) rfl (Nat.le_of_ble_eq_true rfl) rfl ?_
  intro p e s mm below meth c C
  refine rx_si (fun hI => ?_)
  refine rx_iconst C.1 (v := 0) (pc := 0) d_Mod_take_0 (by decide) ?_
  refine rx_istore_n C.1 (pc := 1) d_Mod_take_1 (by decide) ?_
  refine rx_iload_n C.1 (pc := 2) d_Mod_take_2 rfl ?_
  refine rx_bipush C.1 (v := 9) (pc := 3) d_Mod_take_3 (by decide) ?_
  refine rx_icmp_ge C.1 (pc := 5) d_Mod_take_5 (tgt := 31) rfl (fun h9 => absurd h9 (by decide)) (fun _ => ?_)
  refine rx_aload_n C.1 (pc := 8) d_Mod_take_8 rfl ?_
  refine g_Mod_13 D b ca C (pc := 9) d_Mod_take_9 ?_
  refine rx_iload_n C.1 (pc := 12) d_Mod_take_12 rfl ?_
  refine rx_aload_n C.1 (pc := 13) d_Mod_take_13 rfl ?_
  refine g_Mod_7 D b ca C (pc := 14) d_Mod_take_14 ?_
  refine rx_bipush C.1 (v := 9) (pc := 17) d_Mod_take_17 (by decide) ?_
  refine rx_iload_n C.1 (pc := 19) d_Mod_take_19 rfl ?_
  refine rx_imul C.1 (pc := 20) d_Mod_take_20 ?_
  refine rx_iload_n C.1 (pc := 21) d_Mod_take_21 rfl ?_
  refine rx_iadd C.1 (pc := 22) d_Mod_take_22 ?_
  refine rx_iald C (i := 72) (n := 369) (pc := 23) d_Mod_take_23 (rx_lt (by decide)) rfl (ms_in hI hi (by decide)) ?_
  refine rx_iast C (i := 73) (n := 9) (pc := 24) d_Mod_take_24 (rx_lt (by decide)) (fun _ => rfl) (by first | assumption | exact rx_in2 (by assumption) | exact rx_v02 | exact rx_v12 | exact vp_in_iff.mpr (by decide) | exact fa_in (by assumption) (by assumption) | exact fa_in (by assumption) rx_iM0 | exact fa_in (by assumption) rx_iM1) (rx_SI_wr (by omega)) ?_
  refine rx_nm (fun m1 e1 => ?_)
  refine rx_iinc C.1 (v := 1) (pc := 25) d_Mod_take_25 rfl (by decide) (by decide) ?_
  refine rx_goto C.1 (pc := 28) d_Mod_take_28 (tgt := 2) rfl ?_
  refine rx_iload_n C.1 (pc := 2) d_Mod_take_2 rfl ?_
  refine rx_bipush C.1 (v := 9) (pc := 3) d_Mod_take_3 (by decide) ?_
  refine rx_icmp_ge C.1 (pc := 5) d_Mod_take_5 (tgt := 31) rfl (fun h9 => absurd h9 (by decide)) (fun _ => ?_)
  refine rx_aload_n C.1 (pc := 8) d_Mod_take_8 rfl ?_
  refine g_Mod_13 D b ca C (pc := 9) d_Mod_take_9 ?_
  refine rx_iload_n C.1 (pc := 12) d_Mod_take_12 rfl ?_
  refine rx_aload_n C.1 (pc := 13) d_Mod_take_13 rfl ?_
  refine g_Mod_7 D b ca C (pc := 14) d_Mod_take_14 ?_
  refine rx_bipush C.1 (v := 9) (pc := 17) d_Mod_take_17 (by decide) ?_
  refine rx_iload_n C.1 (pc := 19) d_Mod_take_19 rfl ?_
  refine rx_imul C.1 (pc := 20) d_Mod_take_20 ?_
  refine rx_iload_n C.1 (pc := 21) d_Mod_take_21 rfl ?_
  refine rx_iadd C.1 (pc := 22) d_Mod_take_22 ?_
  refine rx_iald C (i := 72) (n := 369) (pc := 23) d_Mod_take_23 (rx_lt (by decide)) rfl (ms_in hI hi (by decide)) ?_
  refine rx_iast C (i := 73) (n := 9) (pc := 24) d_Mod_take_24 (rx_lt (by decide)) (fun _ => rfl) (by first | assumption | exact rx_in2 (by assumption) | exact rx_v02 | exact rx_v12 | exact vp_in_iff.mpr (by decide) | exact fa_in (by assumption) (by assumption) | exact fa_in (by assumption) rx_iM0 | exact fa_in (by assumption) rx_iM1) (rx_SI_wr (by omega)) ?_
  refine rx_nm (fun m2 e2 => ?_)
  refine rx_iinc C.1 (v := 2) (pc := 25) d_Mod_take_25 rfl (by decide) (by decide) ?_
  refine rx_goto C.1 (pc := 28) d_Mod_take_28 (tgt := 2) rfl ?_
  refine rx_iload_n C.1 (pc := 2) d_Mod_take_2 rfl ?_
  refine rx_bipush C.1 (v := 9) (pc := 3) d_Mod_take_3 (by decide) ?_
  refine rx_icmp_ge C.1 (pc := 5) d_Mod_take_5 (tgt := 31) rfl (fun h9 => absurd h9 (by decide)) (fun _ => ?_)
  refine rx_aload_n C.1 (pc := 8) d_Mod_take_8 rfl ?_
  refine g_Mod_13 D b ca C (pc := 9) d_Mod_take_9 ?_
  refine rx_iload_n C.1 (pc := 12) d_Mod_take_12 rfl ?_
  refine rx_aload_n C.1 (pc := 13) d_Mod_take_13 rfl ?_
  refine g_Mod_7 D b ca C (pc := 14) d_Mod_take_14 ?_
  refine rx_bipush C.1 (v := 9) (pc := 17) d_Mod_take_17 (by decide) ?_
  refine rx_iload_n C.1 (pc := 19) d_Mod_take_19 rfl ?_
  refine rx_imul C.1 (pc := 20) d_Mod_take_20 ?_
  refine rx_iload_n C.1 (pc := 21) d_Mod_take_21 rfl ?_
  refine rx_iadd C.1 (pc := 22) d_Mod_take_22 ?_
  refine rx_iald C (i := 72) (n := 369) (pc := 23) d_Mod_take_23 (rx_lt (by decide)) rfl (ms_in hI hi (by decide)) ?_
  refine rx_iast C (i := 73) (n := 9) (pc := 24) d_Mod_take_24 (rx_lt (by decide)) (fun _ => rfl) (by first | assumption | exact rx_in2 (by assumption) | exact rx_v02 | exact rx_v12 | exact vp_in_iff.mpr (by decide) | exact fa_in (by assumption) (by assumption) | exact fa_in (by assumption) rx_iM0 | exact fa_in (by assumption) rx_iM1) (rx_SI_wr (by omega)) ?_
  refine rx_nm (fun m3 e3 => ?_)
  refine rx_iinc C.1 (v := 3) (pc := 25) d_Mod_take_25 rfl (by decide) (by decide) ?_
  refine rx_goto C.1 (pc := 28) d_Mod_take_28 (tgt := 2) rfl ?_
  refine rx_iload_n C.1 (pc := 2) d_Mod_take_2 rfl ?_
  refine rx_bipush C.1 (v := 9) (pc := 3) d_Mod_take_3 (by decide) ?_
  refine rx_icmp_ge C.1 (pc := 5) d_Mod_take_5 (tgt := 31) rfl (fun h9 => absurd h9 (by decide)) (fun _ => ?_)
  refine rx_aload_n C.1 (pc := 8) d_Mod_take_8 rfl ?_
  refine g_Mod_13 D b ca C (pc := 9) d_Mod_take_9 ?_
  refine rx_iload_n C.1 (pc := 12) d_Mod_take_12 rfl ?_
  refine rx_aload_n C.1 (pc := 13) d_Mod_take_13 rfl ?_
  refine g_Mod_7 D b ca C (pc := 14) d_Mod_take_14 ?_
  refine rx_bipush C.1 (v := 9) (pc := 17) d_Mod_take_17 (by decide) ?_
  refine rx_iload_n C.1 (pc := 19) d_Mod_take_19 rfl ?_
  refine rx_imul C.1 (pc := 20) d_Mod_take_20 ?_
  refine rx_iload_n C.1 (pc := 21) d_Mod_take_21 rfl ?_
  refine rx_iadd C.1 (pc := 22) d_Mod_take_22 ?_
  refine rx_iald C (i := 72) (n := 369) (pc := 23) d_Mod_take_23 (rx_lt (by decide)) rfl (ms_in hI hi (by decide)) ?_
  refine rx_iast C (i := 73) (n := 9) (pc := 24) d_Mod_take_24 (rx_lt (by decide)) (fun _ => rfl) (by first | assumption | exact rx_in2 (by assumption) | exact rx_v02 | exact rx_v12 | exact vp_in_iff.mpr (by decide) | exact fa_in (by assumption) (by assumption) | exact fa_in (by assumption) rx_iM0 | exact fa_in (by assumption) rx_iM1) (rx_SI_wr (by omega)) ?_
  refine rx_nm (fun m4 e4 => ?_)
  refine rx_iinc C.1 (v := 4) (pc := 25) d_Mod_take_25 rfl (by decide) (by decide) ?_
  refine rx_goto C.1 (pc := 28) d_Mod_take_28 (tgt := 2) rfl ?_
  refine rx_iload_n C.1 (pc := 2) d_Mod_take_2 rfl ?_
  refine rx_bipush C.1 (v := 9) (pc := 3) d_Mod_take_3 (by decide) ?_
  refine rx_icmp_ge C.1 (pc := 5) d_Mod_take_5 (tgt := 31) rfl (fun h9 => absurd h9 (by decide)) (fun _ => ?_)
  refine rx_aload_n C.1 (pc := 8) d_Mod_take_8 rfl ?_
  refine g_Mod_13 D b ca C (pc := 9) d_Mod_take_9 ?_
  refine rx_iload_n C.1 (pc := 12) d_Mod_take_12 rfl ?_
  refine rx_aload_n C.1 (pc := 13) d_Mod_take_13 rfl ?_
  refine g_Mod_7 D b ca C (pc := 14) d_Mod_take_14 ?_
  refine rx_bipush C.1 (v := 9) (pc := 17) d_Mod_take_17 (by decide) ?_
  refine rx_iload_n C.1 (pc := 19) d_Mod_take_19 rfl ?_
  refine rx_imul C.1 (pc := 20) d_Mod_take_20 ?_
  refine rx_iload_n C.1 (pc := 21) d_Mod_take_21 rfl ?_
  refine rx_iadd C.1 (pc := 22) d_Mod_take_22 ?_
  refine rx_iald C (i := 72) (n := 369) (pc := 23) d_Mod_take_23 (rx_lt (by decide)) rfl (ms_in hI hi (by decide)) ?_
  refine rx_iast C (i := 73) (n := 9) (pc := 24) d_Mod_take_24 (rx_lt (by decide)) (fun _ => rfl) (by first | assumption | exact rx_in2 (by assumption) | exact rx_v02 | exact rx_v12 | exact vp_in_iff.mpr (by decide) | exact fa_in (by assumption) (by assumption) | exact fa_in (by assumption) rx_iM0 | exact fa_in (by assumption) rx_iM1) (rx_SI_wr (by omega)) ?_
  refine rx_nm (fun m5 e5 => ?_)
  refine rx_iinc C.1 (v := 5) (pc := 25) d_Mod_take_25 rfl (by decide) (by decide) ?_
  refine rx_goto C.1 (pc := 28) d_Mod_take_28 (tgt := 2) rfl ?_
  refine rx_iload_n C.1 (pc := 2) d_Mod_take_2 rfl ?_
  refine rx_bipush C.1 (v := 9) (pc := 3) d_Mod_take_3 (by decide) ?_
  refine rx_icmp_ge C.1 (pc := 5) d_Mod_take_5 (tgt := 31) rfl (fun h9 => absurd h9 (by decide)) (fun _ => ?_)
  refine rx_aload_n C.1 (pc := 8) d_Mod_take_8 rfl ?_
  refine g_Mod_13 D b ca C (pc := 9) d_Mod_take_9 ?_
  refine rx_iload_n C.1 (pc := 12) d_Mod_take_12 rfl ?_
  refine rx_aload_n C.1 (pc := 13) d_Mod_take_13 rfl ?_
  refine g_Mod_7 D b ca C (pc := 14) d_Mod_take_14 ?_
  refine rx_bipush C.1 (v := 9) (pc := 17) d_Mod_take_17 (by decide) ?_
  refine rx_iload_n C.1 (pc := 19) d_Mod_take_19 rfl ?_
  refine rx_imul C.1 (pc := 20) d_Mod_take_20 ?_
  refine rx_iload_n C.1 (pc := 21) d_Mod_take_21 rfl ?_
  refine rx_iadd C.1 (pc := 22) d_Mod_take_22 ?_
  refine rx_iald C (i := 72) (n := 369) (pc := 23) d_Mod_take_23 (rx_lt (by decide)) rfl (ms_in hI hi (by decide)) ?_
  refine rx_iast C (i := 73) (n := 9) (pc := 24) d_Mod_take_24 (rx_lt (by decide)) (fun _ => rfl) (by first | assumption | exact rx_in2 (by assumption) | exact rx_v02 | exact rx_v12 | exact vp_in_iff.mpr (by decide) | exact fa_in (by assumption) (by assumption) | exact fa_in (by assumption) rx_iM0 | exact fa_in (by assumption) rx_iM1) (rx_SI_wr (by omega)) ?_
  refine rx_nm (fun m6 e6 => ?_)
  refine rx_iinc C.1 (v := 6) (pc := 25) d_Mod_take_25 rfl (by decide) (by decide) ?_
  refine rx_goto C.1 (pc := 28) d_Mod_take_28 (tgt := 2) rfl ?_
  refine rx_iload_n C.1 (pc := 2) d_Mod_take_2 rfl ?_
  refine rx_bipush C.1 (v := 9) (pc := 3) d_Mod_take_3 (by decide) ?_
  refine rx_icmp_ge C.1 (pc := 5) d_Mod_take_5 (tgt := 31) rfl (fun h9 => absurd h9 (by decide)) (fun _ => ?_)
  refine rx_aload_n C.1 (pc := 8) d_Mod_take_8 rfl ?_
  refine g_Mod_13 D b ca C (pc := 9) d_Mod_take_9 ?_
  refine rx_iload_n C.1 (pc := 12) d_Mod_take_12 rfl ?_
  refine rx_aload_n C.1 (pc := 13) d_Mod_take_13 rfl ?_
  refine g_Mod_7 D b ca C (pc := 14) d_Mod_take_14 ?_
  refine rx_bipush C.1 (v := 9) (pc := 17) d_Mod_take_17 (by decide) ?_
  refine rx_iload_n C.1 (pc := 19) d_Mod_take_19 rfl ?_
  refine rx_imul C.1 (pc := 20) d_Mod_take_20 ?_
  refine rx_iload_n C.1 (pc := 21) d_Mod_take_21 rfl ?_
  refine rx_iadd C.1 (pc := 22) d_Mod_take_22 ?_
  refine rx_iald C (i := 72) (n := 369) (pc := 23) d_Mod_take_23 (rx_lt (by decide)) rfl (ms_in hI hi (by decide)) ?_
  refine rx_iast C (i := 73) (n := 9) (pc := 24) d_Mod_take_24 (rx_lt (by decide)) (fun _ => rfl) (by first | assumption | exact rx_in2 (by assumption) | exact rx_v02 | exact rx_v12 | exact vp_in_iff.mpr (by decide) | exact fa_in (by assumption) (by assumption) | exact fa_in (by assumption) rx_iM0 | exact fa_in (by assumption) rx_iM1) (rx_SI_wr (by omega)) ?_
  refine rx_nm (fun m7 e7 => ?_)
  refine rx_iinc C.1 (v := 7) (pc := 25) d_Mod_take_25 rfl (by decide) (by decide) ?_
  refine rx_goto C.1 (pc := 28) d_Mod_take_28 (tgt := 2) rfl ?_
  refine rx_iload_n C.1 (pc := 2) d_Mod_take_2 rfl ?_
  refine rx_bipush C.1 (v := 9) (pc := 3) d_Mod_take_3 (by decide) ?_
  refine rx_icmp_ge C.1 (pc := 5) d_Mod_take_5 (tgt := 31) rfl (fun h9 => absurd h9 (by decide)) (fun _ => ?_)
  refine rx_aload_n C.1 (pc := 8) d_Mod_take_8 rfl ?_
  refine g_Mod_13 D b ca C (pc := 9) d_Mod_take_9 ?_
  refine rx_iload_n C.1 (pc := 12) d_Mod_take_12 rfl ?_
  refine rx_aload_n C.1 (pc := 13) d_Mod_take_13 rfl ?_
  refine g_Mod_7 D b ca C (pc := 14) d_Mod_take_14 ?_
  refine rx_bipush C.1 (v := 9) (pc := 17) d_Mod_take_17 (by decide) ?_
  refine rx_iload_n C.1 (pc := 19) d_Mod_take_19 rfl ?_
  refine rx_imul C.1 (pc := 20) d_Mod_take_20 ?_
  refine rx_iload_n C.1 (pc := 21) d_Mod_take_21 rfl ?_
  refine rx_iadd C.1 (pc := 22) d_Mod_take_22 ?_
  refine rx_iald C (i := 72) (n := 369) (pc := 23) d_Mod_take_23 (rx_lt (by decide)) rfl (ms_in hI hi (by decide)) ?_
  refine rx_iast C (i := 73) (n := 9) (pc := 24) d_Mod_take_24 (rx_lt (by decide)) (fun _ => rfl) (by first | assumption | exact rx_in2 (by assumption) | exact rx_v02 | exact rx_v12 | exact vp_in_iff.mpr (by decide) | exact fa_in (by assumption) (by assumption) | exact fa_in (by assumption) rx_iM0 | exact fa_in (by assumption) rx_iM1) (rx_SI_wr (by omega)) ?_
  refine rx_nm (fun m8 e8 => ?_)
  refine rx_iinc C.1 (v := 8) (pc := 25) d_Mod_take_25 rfl (by decide) (by decide) ?_
  refine rx_goto C.1 (pc := 28) d_Mod_take_28 (tgt := 2) rfl ?_
  refine rx_iload_n C.1 (pc := 2) d_Mod_take_2 rfl ?_
  refine rx_bipush C.1 (v := 9) (pc := 3) d_Mod_take_3 (by decide) ?_
  refine rx_icmp_ge C.1 (pc := 5) d_Mod_take_5 (tgt := 31) rfl (fun h9 => absurd h9 (by decide)) (fun _ => ?_)
  refine rx_aload_n C.1 (pc := 8) d_Mod_take_8 rfl ?_
  refine g_Mod_13 D b ca C (pc := 9) d_Mod_take_9 ?_
  refine rx_iload_n C.1 (pc := 12) d_Mod_take_12 rfl ?_
  refine rx_aload_n C.1 (pc := 13) d_Mod_take_13 rfl ?_
  refine g_Mod_7 D b ca C (pc := 14) d_Mod_take_14 ?_
  refine rx_bipush C.1 (v := 9) (pc := 17) d_Mod_take_17 (by decide) ?_
  refine rx_iload_n C.1 (pc := 19) d_Mod_take_19 rfl ?_
  refine rx_imul C.1 (pc := 20) d_Mod_take_20 ?_
  refine rx_iload_n C.1 (pc := 21) d_Mod_take_21 rfl ?_
  refine rx_iadd C.1 (pc := 22) d_Mod_take_22 ?_
  refine rx_iald C (i := 72) (n := 369) (pc := 23) d_Mod_take_23 (rx_lt (by decide)) rfl (ms_in hI hi (by decide)) ?_
  refine rx_iast C (i := 73) (n := 9) (pc := 24) d_Mod_take_24 (rx_lt (by decide)) (fun _ => rfl) (by first | assumption | exact rx_in2 (by assumption) | exact rx_v02 | exact rx_v12 | exact vp_in_iff.mpr (by decide) | exact fa_in (by assumption) (by assumption) | exact fa_in (by assumption) rx_iM0 | exact fa_in (by assumption) rx_iM1) (rx_SI_wr (by omega)) ?_
  refine rx_nm (fun m9 e9 => ?_)
  refine rx_iinc C.1 (v := 9) (pc := 25) d_Mod_take_25 rfl (by decide) (by decide) ?_
  refine rx_goto C.1 (pc := 28) d_Mod_take_28 (tgt := 2) rfl ?_
  refine rx_iload_n C.1 (pc := 2) d_Mod_take_2 rfl ?_
  refine rx_bipush C.1 (v := 9) (pc := 3) d_Mod_take_3 (by decide) ?_
  refine rx_icmp_ge C.1 (pc := 5) d_Mod_take_5 (tgt := 31) rfl (fun _ => ?_) (fun h9 => absurd (by decide) h9) 
  refine rx_aload_n C.1 (pc := 31) d_Mod_take_31 rfl ?_
  refine rx_dup C.1 (pc := 32) d_Mod_take_32 rfl ?_
  refine g_Mod_93 D b ca C (pc := 33) d_Mod_take_33 ?_
  refine rx_iconst C.1 (v := 1) (pc := 36) d_Mod_take_36 (by decide) ?_
  refine rx_isub C.1 (pc := 37) d_Mod_take_37 ?_
  have hz : 0 ≤ (m9 71 4 - 1).toInt ∧ (m9 71 4 - 1).toInt ≤ 40 := by subst e9 e8 e7 e6 e5 e4 e3 e2 e1; exact tk_z hI hi
  refine p_Mod_93 D b ca C (pc := 38) d_Mod_take_38 (by assumption) ?_
  refine rx_nm (fun m10 e10 => ?_)
  refine rx_bipush C.1 (v := 9) (pc := 41) d_Mod_take_41 (by decide) ?_
  refine rx_iload_n C.1 (pc := 43) d_Mod_take_43 rfl ?_
  refine rx_imul C.1 (pc := 44) d_Mod_take_44 ?_
  refine rx_istore_n C.1 (pc := 45) d_Mod_take_45 (by decide) ?_
  have hz2 : 0 ≤ i.toInt ∧ i.toInt ≤ (m10 71 4).toInt ∧ (m10 71 4).toInt ≤ 39 := by subst e10 e9 e8 e7 e6 e5 e4 e3 e2 e1; exact tk_z2 hI hi
  refine rx_loc C.1 (rx_sub_all (lo' := [(2, .int (9 * i)), (0, .ref (rg_A (rx_fin D b ca) 71)), (1, .int i)]) ⟨rfl, rfl, rfl, trivial⟩) ?_
  refine lp_Mod_take l D b ca C hz2 (fun k' => ?_)
  refine rx_nm (fun m11 e11 => ?_)
  exact rx_vret C (pc := 78) d_Mod_take_78 (by subst e11 e10 e9 e8 e7 e6 e5 e4 e3 e2 e1; unfold sp_Mod_take; first | with_reducible rfl | (simp only []; done) | rfl)
set_option maxHeartbeats 4000000 in
set_option maxRecDepth 100000 in
theorem it_Mod_pump (l : Launch) (D : va_G) (b : Nat) (ca : Nat → ClassId) {p : Program} {e : Env} {s : State} {mm : MethodId} {args : Array Value} {below : List Frame} {meth : Method} {c : Code} {H0 : Heap} {Q : State → Prop} {σ : rMem} {m k : Int32} (C : rx_Cw p s mm args meth c R_Mod b_Mod_pump 3 none (rx_fin D b ca)) (hm : rx_iM m)
    (kx : 3 ≤ k → rx_X p l e (rx_rm 1) s mm args below meth c (rg_O (rx_fin D b ca)) H0 0 0 Q 3 (rx_m (rx_fin D b ca) σ) 83 [(2, .int k), (0, .ref (rg_A (rx_fin D b ca) 71)), (1, .int m)] []) (kb : ¬ 3 ≤ k → rx_X p l e (rx_rm 1) s mm args below meth c (rg_O (rx_fin D b ca)) H0 0 0 Q 3 (rx_m (rx_fin D b ca) (st_Mod_pump σ m)) 2 [(2, .int (k + 1)), (0, .ref (rg_A (rx_fin D b ca) 71)), (1, .int m)] []) : rx_X p l e (rx_rm 1) s mm args below meth c (rg_O (rx_fin D b ca)) H0 0 0 Q 3 (rx_m (rx_fin D b ca) σ) 2 [(2, .int k), (0, .ref (rg_A (rx_fin D b ca) 71)), (1, .int m)] [] := by
  refine rx_iload_n C.1 (pc := 2) d_Mod_pump_2 rfl ?_
  refine rx_iconst C.1 (v := 3) (pc := 3) d_Mod_pump_3 (by decide) ?_
  refine rx_icmp_ge C.1 (pc := 4) d_Mod_pump_4 (tgt := 83) rfl (fun h1 => ?_) (fun h1 => ?_)
  ·
    exact kx h1
  ·
    refine rx_aload_n C.1 (pc := 7) d_Mod_pump_7 rfl ?_
    refine g_Mod_73 D b ca C (pc := 8) d_Mod_pump_8 ?_
    refine rx_iload_n C.1 (pc := 11) d_Mod_pump_11 rfl ?_
    refine rx_iald C (i := 93) (n := 2) (pc := 12) d_Mod_pump_12 (rx_lt (by decide)) rfl (by first | assumption | exact rx_in2 (by assumption) | exact rx_v02 | exact rx_v12 | exact vp_in_iff.mpr (by decide) | exact fa_in (by assumption) (by assumption) | exact fa_in (by assumption) rx_iM0 | exact fa_in (by assumption) rx_iM1) ?_
    refine rx_aload_n C.1 (pc := 13) d_Mod_pump_13 rfl ?_
    refine g_Mod_70 D b ca C (pc := 14) d_Mod_pump_14 ?_
    refine rx_iload_n C.1 (pc := 17) d_Mod_pump_17 rfl ?_
    refine rx_iald C (i := 92) (n := 2) (pc := 18) d_Mod_pump_18 (rx_lt (by decide)) rfl (by first | assumption | exact rx_in2 (by assumption) | exact rx_v02 | exact rx_v12 | exact vp_in_iff.mpr (by decide) | exact fa_in (by assumption) (by assumption) | exact fa_in (by assumption) rx_iM0 | exact fa_in (by assumption) rx_iM1) ?_
    refine rx_icmp_ge C.1 (pc := 19) d_Mod_pump_19 (tgt := 77) rfl (fun h2 => ?_) (fun h2 => ?_)
    ·
      refine rx_iinc C.1 (v := k + 1) (pc := 77) d_Mod_pump_77 rfl rfl (by decide) ?_
      refine rx_goto C.1 (pc := 80) d_Mod_pump_80 (tgt := 2) rfl ?_
      refine rx_loc C.1 (rx_sub_all (lo' := [(2, .int (k + 1)), (0, .ref (rg_A (rx_fin D b ca) 71)), (1, .int m)]) ⟨rfl, rfl, rfl, trivial⟩) ?_
      have hb := kb h1
      unfold st_Mod_pump at hb
      first | (rw [if_pos h2] at hb; exact hb) | (rw [if_neg h2, if_pos h3] at hb; exact hb) | (rw [if_neg h2, if_neg h3] at hb; exact hb)
    ·
      refine rx_aload_n C.1 (pc := 22) d_Mod_pump_22 rfl ?_
      refine g_Mod_73 D b ca C (pc := 23) d_Mod_pump_23 ?_
      refine rx_iload_n C.1 (pc := 26) d_Mod_pump_26 rfl ?_
      refine rx_iald C (i := 93) (n := 2) (pc := 27) d_Mod_pump_27 (rx_lt (by decide)) rfl (by first | assumption | exact rx_in2 (by assumption) | exact rx_v02 | exact rx_v12 | exact vp_in_iff.mpr (by decide) | exact fa_in (by assumption) (by assumption) | exact fa_in (by assumption) rx_iM0 | exact fa_in (by assumption) rx_iM1) ?_
      refine rx_aload_n C.1 (pc := 28) d_Mod_pump_28 rfl ?_
      refine g_Mod_76 D b ca C (pc := 29) d_Mod_pump_29 ?_
      refine rx_iload_n C.1 (pc := 32) d_Mod_pump_32 rfl ?_
      refine rx_iald C (i := 94) (n := 2) (pc := 33) d_Mod_pump_33 (rx_lt (by decide)) rfl (by first | assumption | exact rx_in2 (by assumption) | exact rx_v02 | exact rx_v12 | exact vp_in_iff.mpr (by decide) | exact fa_in (by assumption) (by assumption) | exact fa_in (by assumption) rx_iM0 | exact fa_in (by assumption) rx_iM1) ?_
      refine rx_iconst C.1 (v := 3) (pc := 34) d_Mod_pump_34 (by decide) ?_
      refine rx_iadd C.1 (pc := 35) d_Mod_pump_35 ?_
      refine rx_icmp_ge C.1 (pc := 36) d_Mod_pump_36 (tgt := 77) rfl (fun h3 => ?_) (fun h3 => ?_)
      ·
        refine rx_iinc C.1 (v := k + 1) (pc := 77) d_Mod_pump_77 rfl rfl (by decide) ?_
        refine rx_goto C.1 (pc := 80) d_Mod_pump_80 (tgt := 2) rfl ?_
        refine rx_loc C.1 (rx_sub_all (lo' := [(2, .int (k + 1)), (0, .ref (rg_A (rx_fin D b ca) 71)), (1, .int m)]) ⟨rfl, rfl, rfl, trivial⟩) ?_
        have hb := kb h1
        unfold st_Mod_pump at hb
        first | (rw [if_pos h2] at hb; exact hb) | (rw [if_neg h2, if_pos h3] at hb; exact hb) | (rw [if_neg h2, if_neg h3] at hb; exact hb)
      ·
        refine rx_aload_n C.1 (pc := 39) d_Mod_pump_39 rfl ?_
        refine g_Mod_73 D b ca C (pc := 40) d_Mod_pump_40 ?_
        refine rx_iload_n C.1 (pc := 43) d_Mod_pump_43 rfl ?_
        refine rx_dup2_11 C.1 (pc := 44) d_Mod_pump_44 rfl rfl ?_
        refine rx_iald C (i := 93) (n := 2) (pc := 45) d_Mod_pump_45 (rx_lt (by decide)) rfl (by first | assumption | exact rx_in2 (by assumption) | exact rx_v02 | exact rx_v12 | exact vp_in_iff.mpr (by decide) | exact fa_in (by assumption) (by assumption) | exact fa_in (by assumption) rx_iM0 | exact fa_in (by assumption) rx_iM1) ?_
        refine rx_iconst C.1 (v := 1) (pc := 46) d_Mod_pump_46 (by decide) ?_
        refine rx_iadd C.1 (pc := 47) d_Mod_pump_47 ?_
        refine rx_si (fun hI => ?_)
        have hz := pm_okM hI hm h2
        refine rx_iast C (i := 93) (n := 2) (pc := 48) d_Mod_pump_48 (rx_lt (by decide)) (fun _ => rfl) (by first | assumption | exact rx_in2 (by assumption) | exact rx_v02 | exact rx_v12 | exact vp_in_iff.mpr (by decide) | exact fa_in (by assumption) (by assumption) | exact fa_in (by assumption) rx_iM0 | exact fa_in (by assumption) rx_iM1) (rx_SI_cnt (by omega) hz) ?_
        refine rx_aload_n C.1 (pc := 49) d_Mod_pump_49 rfl ?_
        refine rx_iconst C.1 (v := 4) (pc := 50) d_Mod_pump_50 (by decide) ?_
        refine rx_iconst C.1 (v := 0) (pc := 51) d_Mod_pump_51 (by decide) ?_
        refine rx_iload_n C.1 (pc := 52) d_Mod_pump_52 rfl ?_
        refine rx_iconst C.1 (v := 0) (pc := 53) d_Mod_pump_53 (by decide) ?_
        refine rx_aload_n C.1 (pc := 54) d_Mod_pump_54 rfl ?_
        refine g_Mod_73 D b ca C (pc := 55) d_Mod_pump_55 ?_
        refine rx_iload_n C.1 (pc := 58) d_Mod_pump_58 rfl ?_
        refine rx_iald C (i := 93) (n := 2) (pc := 59) d_Mod_pump_59 (rx_lt (by decide)) rfl (by first | assumption | exact rx_in2 (by assumption) | exact rx_v02 | exact rx_v12 | exact vp_in_iff.mpr (by decide) | exact fa_in (by assumption) (by assumption) | exact fa_in (by assumption) rx_iM0 | exact fa_in (by assumption) rx_iM1) ?_
        refine rx_iconst C.1 (v := 0) (pc := 60) d_Mod_pump_60 (by decide) ?_
        refine rx_iconst C.1 (v := 0) (pc := 61) d_Mod_pump_61 (by decide) ?_
        refine rx_iconst C.1 (v := 0) (pc := 62) d_Mod_pump_62 (by decide) ?_
        refine rx_iconst C.1 (v := 0) (pc := 63) d_Mod_pump_63 (by decide) ?_
        refine q_Mod_109 D b ca C (pc := 64) d_Mod_pump_64 (c_Mod_send l D b ca ) ⟨Nat.le_of_ble_eq_true rfl, Nat.le_of_ble_eq_true rfl⟩ ⟨Nat.zero_le _, Nat.zero_le _⟩ (Nat.le_of_ble_eq_true rfl) ?_
        refine rx_aload_n C.1 (pc := 67) d_Mod_pump_67 rfl ?_
        refine g_Mod_79 D b ca C (pc := 68) d_Mod_pump_68 ?_
        refine rx_iload_n C.1 (pc := 71) d_Mod_pump_71 rfl ?_
        refine rx_aload_n C.1 (pc := 72) d_Mod_pump_72 rfl ?_
        refine g_Mod_113 D b ca C (pc := 73) d_Mod_pump_73 ?_
        refine rx_iast C (i := 95) (n := 2) (pc := 76) d_Mod_pump_76 (rx_lt (by decide)) (fun _ => rfl) (by first | assumption | exact rx_in2 (by assumption) | exact rx_v02 | exact rx_v12 | exact vp_in_iff.mpr (by decide) | exact fa_in (by assumption) (by assumption) | exact fa_in (by assumption) rx_iM0 | exact fa_in (by assumption) rx_iM1) (rx_SI_wr (by omega)) ?_
        refine rx_iinc C.1 (v := k + 1) (pc := 77) d_Mod_pump_77 rfl rfl (by decide) ?_
        refine rx_goto C.1 (pc := 80) d_Mod_pump_80 (tgt := 2) rfl ?_
        refine rx_loc C.1 (rx_sub_all (lo' := [(2, .int (k + 1)), (0, .ref (rg_A (rx_fin D b ca) 71)), (1, .int m)]) ⟨rfl, rfl, rfl, trivial⟩) ?_
        have hb := kb h1
        unfold st_Mod_pump at hb
        first | (rw [if_pos h2] at hb; exact hb) | (rw [if_neg h2, if_pos h3] at hb; exact hb) | (rw [if_neg h2, if_neg h3] at hb; exact hb)
theorem lp_Mod_pump (l : Launch) (D : va_G) (b : Nat) (ca : Nat → ClassId) {p : Program} {e : Env} {s : State} {mm : MethodId} {args : Array Value} {below : List Frame} {meth : Method} {c : Code} {H0 : Heap} {Q : State → Prop} {σ : rMem} {m : Int32} (C : rx_Cw p s mm args meth c R_Mod b_Mod_pump 3 none (rx_fin D b ca)) (hm : rx_iM m)
    (kx : ∀ k' : Int32, rx_X p l e (rx_rm 1) s mm args below meth c (rg_O (rx_fin D b ca)) H0 0 0 Q 3 (rx_m (rx_fin D b ca) (st_Mod_pump (st_Mod_pump (st_Mod_pump σ m) m) m)) 83 [(2, .int k'), (0, .ref (rg_A (rx_fin D b ca) 71)), (1, .int m)] []) :
    rx_X p l e (rx_rm 1) s mm args below meth c (rg_O (rx_fin D b ca)) H0 0 0 Q 3 (rx_m (rx_fin D b ca) σ) 2 [(2, .int 0), (0, .ref (rg_A (rx_fin D b ca) 71)), (1, .int m)] [] := by
  refine it_Mod_pump l D b ca C hm (fun h => absurd h (by decide)) (fun _ => ?_)
  refine it_Mod_pump l D b ca C hm (fun h => absurd h (by decide)) (fun _ => ?_)
  refine it_Mod_pump l D b ca C hm (fun h => absurd h (by decide)) (fun _ => ?_)
  exact it_Mod_pump l D b ca C hm (fun _ => kx _) (fun h => absurd (by decide) h)

def sp_Mod_pump (σ : rMem) (m : Int32) : rMem := let m1 := st_Mod_pump (st_Mod_pump (st_Mod_pump σ m) m) m; m1
set_option maxHeartbeats 4000000 in
set_option maxRecDepth 100000 in
theorem c_Mod_pump (l : Launch) (D : va_G) (b : Nat) (ca : Nat → ClassId) {σ : rMem} {m : Int32} (hm : rx_iM m) : rx_C l (rx_fin D b ca) y_Mod_pump b_Mod_pump 3 none (rx_rm 1) [.ref (rg_A (rx_fin D b ca) 71), .int m] σ none (sp_Mod_pump σ m) := by
  refine rx_of (lo := [(0, .ref (rg_A (rx_fin D b ca) 71)), (1, .int m)]) (by decide) (rx_fin_D D b ca) rfl (Nat.le_of_ble_eq_true rfl) rfl ?_
  intro p e s mm below meth c C
  refine rx_iconst C.1 (v := 0) (pc := 0) d_Mod_pump_0 (by decide) ?_
  refine rx_istore_n C.1 (pc := 1) d_Mod_pump_1 (by decide) ?_
  refine rx_loc C.1 (rx_sub_all (lo' := [(2, .int 0), (0, .ref (rg_A (rx_fin D b ca) 71)), (1, .int m)]) ⟨rfl, rfl, rfl, trivial⟩) ?_
  refine lp_Mod_pump l D b ca C hm (fun k' => ?_)
  exact rx_vret C (pc := 83) d_Mod_pump_83 (by first | rfl | (unfold sp_Mod_pump; rfl))
def sp_Mod_duplicate (σ : rMem) (i : Int32) : rMem × Int32 := if (rv_Mod_isMessage σ i) = 0 then (σ, 0) else (if (σ 71 4) < 40 then (let m1 := rx_wr σ 72 ((9 * (σ 71 4)) + 0).toNatClampNeg (σ 72 ((9 * i) + 0).toNatClampNeg); let m2 := rx_wr m1 72 ((9 * (m1 71 4)) + 1).toNatClampNeg (m1 72 ((9 * i) + 1).toNatClampNeg); let m3 := rx_wr m2 72 ((9 * (m2 71 4)) + 2).toNatClampNeg (m2 72 ((9 * i) + 2).toNatClampNeg); let m4 := rx_wr m3 72 ((9 * (m3 71 4)) + 3).toNatClampNeg (m3 72 ((9 * i) + 3).toNatClampNeg); let m5 := rx_wr m4 72 ((9 * (m4 71 4)) + 4).toNatClampNeg (m4 72 ((9 * i) + 4).toNatClampNeg); let m6 := rx_wr m5 72 ((9 * (m5 71 4)) + 5).toNatClampNeg (m5 72 ((9 * i) + 5).toNatClampNeg); let m7 := rx_wr m6 72 ((9 * (m6 71 4)) + 6).toNatClampNeg (m6 72 ((9 * i) + 6).toNatClampNeg); let m8 := rx_wr m7 72 ((9 * (m7 71 4)) + 7).toNatClampNeg (m7 72 ((9 * i) + 7).toNatClampNeg); let m9 := rx_wr m8 72 ((9 * (m8 71 4)) + 8).toNatClampNeg (m8 72 ((9 * i) + 8).toNatClampNeg); let m10 := rx_wr m9 71 4 ((m9 71 4) + 1); (m10, 1)) else (σ, 0))
set_option maxHeartbeats 4000000 in
set_option maxRecDepth 100000 in
theorem c_Mod_duplicate (l : Launch) (D : va_G) (b : Nat) (ca : Nat → ClassId) {σ : rMem} {i : Int32} : rx_C l (rx_fin D b ca) y_Mod_duplicate b_Mod_duplicate 3 (some .boolean) (rx_rm 1) [.ref (rg_A (rx_fin D b ca) 71), .int i] σ (some (.int (sp_Mod_duplicate σ i).2)) (sp_Mod_duplicate σ i).1 := by
  refine rx_of (lo := [(0, .ref (rg_A (rx_fin D b ca) 71)), (1, .int i)]) (by decide) (rx_fin_D D b ca) rfl (Nat.le_of_ble_eq_true rfl) rfl ?_
  intro p e s mm below meth c C
  refine rx_si (fun hI => ?_)
  refine rx_aload_n C.1 (pc := 0) d_Mod_duplicate_0 rfl ?_
  refine rx_iload_n C.1 (pc := 1) d_Mod_duplicate_1 rfl ?_
  refine q_Mod_132 D b ca C (pc := 2) d_Mod_duplicate_2 (c_Mod_isMessage l D b ca ) ⟨Nat.le_of_ble_eq_true rfl, Nat.le_of_ble_eq_true rfl⟩ ⟨Nat.zero_le _, Nat.zero_le _⟩ (Nat.le_of_ble_eq_true rfl) ?_
  refine rx_if_eq C.1 (pc := 5) d_Mod_duplicate_5 (tgt := 17) rfl (fun h1 => ?_) (fun h1 => ?_)
  ·
    refine rx_iconst C.1 (v := 0) (pc := 17) d_Mod_duplicate_17 (by decide) ?_
    exact rx_zret C (pc := 18) d_Mod_duplicate_18 (Or.inl rfl) (by unfold sp_Mod_duplicate; first | (simp only [if_pos h1]; done) | (simp only [if_pos h1]; rfl)) (by unfold sp_Mod_duplicate; first | (simp only [if_pos h1]; done) | (simp only [if_pos h1]; rfl))
  ·
    have g1 := rh_Mod h1
    refine rx_aload_n C.1 (pc := 8) d_Mod_duplicate_8 rfl ?_
    refine g_Mod_93 D b ca C (pc := 9) d_Mod_duplicate_9 ?_
    refine rx_bipush C.1 (v := 40) (pc := 12) d_Mod_duplicate_12 (by decide) ?_
    refine rx_icmp_lt C.1 (pc := 14) d_Mod_duplicate_14 (tgt := 19) rfl (fun h2 => ?_) (fun h2 => ?_)
    ·
      refine rx_iconst C.1 (v := 0) (pc := 19) d_Mod_duplicate_19 (by decide) ?_
      refine rx_istore_n C.1 (pc := 20) d_Mod_duplicate_20 (by decide) ?_
      refine rx_iload_n C.1 (pc := 21) d_Mod_duplicate_21 rfl ?_
      refine rx_bipush C.1 (v := 9) (pc := 22) d_Mod_duplicate_22 (by decide) ?_
      refine rx_icmp_ge C.1 (pc := 24) d_Mod_duplicate_24 (tgt := 58) rfl (fun h9 => absurd h9 (by decide)) (fun _ => ?_)
      refine rx_aload_n C.1 (pc := 27) d_Mod_duplicate_27 rfl ?_
      refine g_Mod_7 D b ca C (pc := 28) d_Mod_duplicate_28 ?_
      refine rx_bipush C.1 (v := 9) (pc := 31) d_Mod_duplicate_31 (by decide) ?_
      refine rx_aload_n C.1 (pc := 33) d_Mod_duplicate_33 rfl ?_
      refine g_Mod_93 D b ca C (pc := 34) d_Mod_duplicate_34 ?_
      refine rx_imul C.1 (pc := 37) d_Mod_duplicate_37 ?_
      refine rx_iload_n C.1 (pc := 38) d_Mod_duplicate_38 rfl ?_
      refine rx_iadd C.1 (pc := 39) d_Mod_duplicate_39 ?_
      refine rx_aload_n C.1 (pc := 40) d_Mod_duplicate_40 rfl ?_
      refine g_Mod_7 D b ca C (pc := 41) d_Mod_duplicate_41 ?_
      refine rx_bipush C.1 (v := 9) (pc := 44) d_Mod_duplicate_44 (by decide) ?_
      refine rx_iload_n C.1 (pc := 46) d_Mod_duplicate_46 rfl ?_
      refine rx_imul C.1 (pc := 47) d_Mod_duplicate_47 ?_
      refine rx_iload_n C.1 (pc := 48) d_Mod_duplicate_48 rfl ?_
      refine rx_iadd C.1 (pc := 49) d_Mod_duplicate_49 ?_
      refine rx_iald C (i := 72) (n := 369) (pc := 50) d_Mod_duplicate_50 (rx_lt (by decide)) rfl (ms_in hI g1 (by decide)) ?_
      refine rx_iast C (i := 72) (n := 369) (pc := 51) d_Mod_duplicate_51 (rx_lt (by decide)) (fun _ => rfl) (by exact sd_in hI h2 (by decide)) (rx_SI_wr (by omega)) ?_
      refine rx_nm (fun m1 e1 => ?_)
      refine rx_iinc C.1 (v := 1) (pc := 52) d_Mod_duplicate_52 rfl (by decide) (by decide) ?_
      refine rx_goto C.1 (pc := 55) d_Mod_duplicate_55 (tgt := 21) rfl ?_
      refine rx_iload_n C.1 (pc := 21) d_Mod_duplicate_21 rfl ?_
      refine rx_bipush C.1 (v := 9) (pc := 22) d_Mod_duplicate_22 (by decide) ?_
      refine rx_icmp_ge C.1 (pc := 24) d_Mod_duplicate_24 (tgt := 58) rfl (fun h9 => absurd h9 (by decide)) (fun _ => ?_)
      refine rx_aload_n C.1 (pc := 27) d_Mod_duplicate_27 rfl ?_
      refine g_Mod_7 D b ca C (pc := 28) d_Mod_duplicate_28 ?_
      refine rx_bipush C.1 (v := 9) (pc := 31) d_Mod_duplicate_31 (by decide) ?_
      refine rx_aload_n C.1 (pc := 33) d_Mod_duplicate_33 rfl ?_
      refine g_Mod_93 D b ca C (pc := 34) d_Mod_duplicate_34 ?_
      refine rx_imul C.1 (pc := 37) d_Mod_duplicate_37 ?_
      refine rx_iload_n C.1 (pc := 38) d_Mod_duplicate_38 rfl ?_
      refine rx_iadd C.1 (pc := 39) d_Mod_duplicate_39 ?_
      refine rx_aload_n C.1 (pc := 40) d_Mod_duplicate_40 rfl ?_
      refine g_Mod_7 D b ca C (pc := 41) d_Mod_duplicate_41 ?_
      refine rx_bipush C.1 (v := 9) (pc := 44) d_Mod_duplicate_44 (by decide) ?_
      refine rx_iload_n C.1 (pc := 46) d_Mod_duplicate_46 rfl ?_
      refine rx_imul C.1 (pc := 47) d_Mod_duplicate_47 ?_
      refine rx_iload_n C.1 (pc := 48) d_Mod_duplicate_48 rfl ?_
      refine rx_iadd C.1 (pc := 49) d_Mod_duplicate_49 ?_
      refine rx_iald C (i := 72) (n := 369) (pc := 50) d_Mod_duplicate_50 (rx_lt (by decide)) rfl (ms_in hI g1 (by decide)) ?_
      refine rx_iast C (i := 72) (n := 369) (pc := 51) d_Mod_duplicate_51 (rx_lt (by decide)) (fun _ => rfl) (by subst e1; exact sd_in hI h2 (by decide)) (rx_SI_wr (by omega)) ?_
      refine rx_nm (fun m2 e2 => ?_)
      refine rx_iinc C.1 (v := 2) (pc := 52) d_Mod_duplicate_52 rfl (by decide) (by decide) ?_
      refine rx_goto C.1 (pc := 55) d_Mod_duplicate_55 (tgt := 21) rfl ?_
      refine rx_iload_n C.1 (pc := 21) d_Mod_duplicate_21 rfl ?_
      refine rx_bipush C.1 (v := 9) (pc := 22) d_Mod_duplicate_22 (by decide) ?_
      refine rx_icmp_ge C.1 (pc := 24) d_Mod_duplicate_24 (tgt := 58) rfl (fun h9 => absurd h9 (by decide)) (fun _ => ?_)
      refine rx_aload_n C.1 (pc := 27) d_Mod_duplicate_27 rfl ?_
      refine g_Mod_7 D b ca C (pc := 28) d_Mod_duplicate_28 ?_
      refine rx_bipush C.1 (v := 9) (pc := 31) d_Mod_duplicate_31 (by decide) ?_
      refine rx_aload_n C.1 (pc := 33) d_Mod_duplicate_33 rfl ?_
      refine g_Mod_93 D b ca C (pc := 34) d_Mod_duplicate_34 ?_
      refine rx_imul C.1 (pc := 37) d_Mod_duplicate_37 ?_
      refine rx_iload_n C.1 (pc := 38) d_Mod_duplicate_38 rfl ?_
      refine rx_iadd C.1 (pc := 39) d_Mod_duplicate_39 ?_
      refine rx_aload_n C.1 (pc := 40) d_Mod_duplicate_40 rfl ?_
      refine g_Mod_7 D b ca C (pc := 41) d_Mod_duplicate_41 ?_
      refine rx_bipush C.1 (v := 9) (pc := 44) d_Mod_duplicate_44 (by decide) ?_
      refine rx_iload_n C.1 (pc := 46) d_Mod_duplicate_46 rfl ?_
      refine rx_imul C.1 (pc := 47) d_Mod_duplicate_47 ?_
      refine rx_iload_n C.1 (pc := 48) d_Mod_duplicate_48 rfl ?_
      refine rx_iadd C.1 (pc := 49) d_Mod_duplicate_49 ?_
      refine rx_iald C (i := 72) (n := 369) (pc := 50) d_Mod_duplicate_50 (rx_lt (by decide)) rfl (ms_in hI g1 (by decide)) ?_
      refine rx_iast C (i := 72) (n := 369) (pc := 51) d_Mod_duplicate_51 (rx_lt (by decide)) (fun _ => rfl) (by subst e2 e1; exact sd_in hI h2 (by decide)) (rx_SI_wr (by omega)) ?_
      refine rx_nm (fun m3 e3 => ?_)
      refine rx_iinc C.1 (v := 3) (pc := 52) d_Mod_duplicate_52 rfl (by decide) (by decide) ?_
      refine rx_goto C.1 (pc := 55) d_Mod_duplicate_55 (tgt := 21) rfl ?_
      refine rx_iload_n C.1 (pc := 21) d_Mod_duplicate_21 rfl ?_
      refine rx_bipush C.1 (v := 9) (pc := 22) d_Mod_duplicate_22 (by decide) ?_
      refine rx_icmp_ge C.1 (pc := 24) d_Mod_duplicate_24 (tgt := 58) rfl (fun h9 => absurd h9 (by decide)) (fun _ => ?_)
      refine rx_aload_n C.1 (pc := 27) d_Mod_duplicate_27 rfl ?_
      refine g_Mod_7 D b ca C (pc := 28) d_Mod_duplicate_28 ?_
      refine rx_bipush C.1 (v := 9) (pc := 31) d_Mod_duplicate_31 (by decide) ?_
      refine rx_aload_n C.1 (pc := 33) d_Mod_duplicate_33 rfl ?_
      refine g_Mod_93 D b ca C (pc := 34) d_Mod_duplicate_34 ?_
      refine rx_imul C.1 (pc := 37) d_Mod_duplicate_37 ?_
      refine rx_iload_n C.1 (pc := 38) d_Mod_duplicate_38 rfl ?_
      refine rx_iadd C.1 (pc := 39) d_Mod_duplicate_39 ?_
      refine rx_aload_n C.1 (pc := 40) d_Mod_duplicate_40 rfl ?_
      refine g_Mod_7 D b ca C (pc := 41) d_Mod_duplicate_41 ?_
      refine rx_bipush C.1 (v := 9) (pc := 44) d_Mod_duplicate_44 (by decide) ?_
      refine rx_iload_n C.1 (pc := 46) d_Mod_duplicate_46 rfl ?_
      refine rx_imul C.1 (pc := 47) d_Mod_duplicate_47 ?_
      refine rx_iload_n C.1 (pc := 48) d_Mod_duplicate_48 rfl ?_
      refine rx_iadd C.1 (pc := 49) d_Mod_duplicate_49 ?_
      refine rx_iald C (i := 72) (n := 369) (pc := 50) d_Mod_duplicate_50 (rx_lt (by decide)) rfl (ms_in hI g1 (by decide)) ?_
      refine rx_iast C (i := 72) (n := 369) (pc := 51) d_Mod_duplicate_51 (rx_lt (by decide)) (fun _ => rfl) (by subst e3 e2 e1; exact sd_in hI h2 (by decide)) (rx_SI_wr (by omega)) ?_
      refine rx_nm (fun m4 e4 => ?_)
      refine rx_iinc C.1 (v := 4) (pc := 52) d_Mod_duplicate_52 rfl (by decide) (by decide) ?_
      refine rx_goto C.1 (pc := 55) d_Mod_duplicate_55 (tgt := 21) rfl ?_
      refine rx_iload_n C.1 (pc := 21) d_Mod_duplicate_21 rfl ?_
      refine rx_bipush C.1 (v := 9) (pc := 22) d_Mod_duplicate_22 (by decide) ?_
      refine rx_icmp_ge C.1 (pc := 24) d_Mod_duplicate_24 (tgt := 58) rfl (fun h9 => absurd h9 (by decide)) (fun _ => ?_)
      refine rx_aload_n C.1 (pc := 27) d_Mod_duplicate_27 rfl ?_
      refine g_Mod_7 D b ca C (pc := 28) d_Mod_duplicate_28 ?_
      refine rx_bipush C.1 (v := 9) (pc := 31) d_Mod_duplicate_31 (by decide) ?_
      refine rx_aload_n C.1 (pc := 33) d_Mod_duplicate_33 rfl ?_
      refine g_Mod_93 D b ca C (pc := 34) d_Mod_duplicate_34 ?_
      refine rx_imul C.1 (pc := 37) d_Mod_duplicate_37 ?_
      refine rx_iload_n C.1 (pc := 38) d_Mod_duplicate_38 rfl ?_
      refine rx_iadd C.1 (pc := 39) d_Mod_duplicate_39 ?_
      refine rx_aload_n C.1 (pc := 40) d_Mod_duplicate_40 rfl ?_
      refine g_Mod_7 D b ca C (pc := 41) d_Mod_duplicate_41 ?_
      refine rx_bipush C.1 (v := 9) (pc := 44) d_Mod_duplicate_44 (by decide) ?_
      refine rx_iload_n C.1 (pc := 46) d_Mod_duplicate_46 rfl ?_
      refine rx_imul C.1 (pc := 47) d_Mod_duplicate_47 ?_
      refine rx_iload_n C.1 (pc := 48) d_Mod_duplicate_48 rfl ?_
      refine rx_iadd C.1 (pc := 49) d_Mod_duplicate_49 ?_
      refine rx_iald C (i := 72) (n := 369) (pc := 50) d_Mod_duplicate_50 (rx_lt (by decide)) rfl (ms_in hI g1 (by decide)) ?_
      refine rx_iast C (i := 72) (n := 369) (pc := 51) d_Mod_duplicate_51 (rx_lt (by decide)) (fun _ => rfl) (by subst e4 e3 e2 e1; exact sd_in hI h2 (by decide)) (rx_SI_wr (by omega)) ?_
      refine rx_nm (fun m5 e5 => ?_)
      refine rx_iinc C.1 (v := 5) (pc := 52) d_Mod_duplicate_52 rfl (by decide) (by decide) ?_
      refine rx_goto C.1 (pc := 55) d_Mod_duplicate_55 (tgt := 21) rfl ?_
      refine rx_iload_n C.1 (pc := 21) d_Mod_duplicate_21 rfl ?_
      refine rx_bipush C.1 (v := 9) (pc := 22) d_Mod_duplicate_22 (by decide) ?_
      refine rx_icmp_ge C.1 (pc := 24) d_Mod_duplicate_24 (tgt := 58) rfl (fun h9 => absurd h9 (by decide)) (fun _ => ?_)
      refine rx_aload_n C.1 (pc := 27) d_Mod_duplicate_27 rfl ?_
      refine g_Mod_7 D b ca C (pc := 28) d_Mod_duplicate_28 ?_
      refine rx_bipush C.1 (v := 9) (pc := 31) d_Mod_duplicate_31 (by decide) ?_
      refine rx_aload_n C.1 (pc := 33) d_Mod_duplicate_33 rfl ?_
      refine g_Mod_93 D b ca C (pc := 34) d_Mod_duplicate_34 ?_
      refine rx_imul C.1 (pc := 37) d_Mod_duplicate_37 ?_
      refine rx_iload_n C.1 (pc := 38) d_Mod_duplicate_38 rfl ?_
      refine rx_iadd C.1 (pc := 39) d_Mod_duplicate_39 ?_
      refine rx_aload_n C.1 (pc := 40) d_Mod_duplicate_40 rfl ?_
      refine g_Mod_7 D b ca C (pc := 41) d_Mod_duplicate_41 ?_
      refine rx_bipush C.1 (v := 9) (pc := 44) d_Mod_duplicate_44 (by decide) ?_
      refine rx_iload_n C.1 (pc := 46) d_Mod_duplicate_46 rfl ?_
      refine rx_imul C.1 (pc := 47) d_Mod_duplicate_47 ?_
      refine rx_iload_n C.1 (pc := 48) d_Mod_duplicate_48 rfl ?_
      refine rx_iadd C.1 (pc := 49) d_Mod_duplicate_49 ?_
      refine rx_iald C (i := 72) (n := 369) (pc := 50) d_Mod_duplicate_50 (rx_lt (by decide)) rfl (ms_in hI g1 (by decide)) ?_
      refine rx_iast C (i := 72) (n := 369) (pc := 51) d_Mod_duplicate_51 (rx_lt (by decide)) (fun _ => rfl) (by subst e5 e4 e3 e2 e1; exact sd_in hI h2 (by decide)) (rx_SI_wr (by omega)) ?_
      refine rx_nm (fun m6 e6 => ?_)
      refine rx_iinc C.1 (v := 6) (pc := 52) d_Mod_duplicate_52 rfl (by decide) (by decide) ?_
      refine rx_goto C.1 (pc := 55) d_Mod_duplicate_55 (tgt := 21) rfl ?_
      refine rx_iload_n C.1 (pc := 21) d_Mod_duplicate_21 rfl ?_
      refine rx_bipush C.1 (v := 9) (pc := 22) d_Mod_duplicate_22 (by decide) ?_
      refine rx_icmp_ge C.1 (pc := 24) d_Mod_duplicate_24 (tgt := 58) rfl (fun h9 => absurd h9 (by decide)) (fun _ => ?_)
      refine rx_aload_n C.1 (pc := 27) d_Mod_duplicate_27 rfl ?_
      refine g_Mod_7 D b ca C (pc := 28) d_Mod_duplicate_28 ?_
      refine rx_bipush C.1 (v := 9) (pc := 31) d_Mod_duplicate_31 (by decide) ?_
      refine rx_aload_n C.1 (pc := 33) d_Mod_duplicate_33 rfl ?_
      refine g_Mod_93 D b ca C (pc := 34) d_Mod_duplicate_34 ?_
      refine rx_imul C.1 (pc := 37) d_Mod_duplicate_37 ?_
      refine rx_iload_n C.1 (pc := 38) d_Mod_duplicate_38 rfl ?_
      refine rx_iadd C.1 (pc := 39) d_Mod_duplicate_39 ?_
      refine rx_aload_n C.1 (pc := 40) d_Mod_duplicate_40 rfl ?_
      refine g_Mod_7 D b ca C (pc := 41) d_Mod_duplicate_41 ?_
      refine rx_bipush C.1 (v := 9) (pc := 44) d_Mod_duplicate_44 (by decide) ?_
      refine rx_iload_n C.1 (pc := 46) d_Mod_duplicate_46 rfl ?_
      refine rx_imul C.1 (pc := 47) d_Mod_duplicate_47 ?_
      refine rx_iload_n C.1 (pc := 48) d_Mod_duplicate_48 rfl ?_
      refine rx_iadd C.1 (pc := 49) d_Mod_duplicate_49 ?_
      refine rx_iald C (i := 72) (n := 369) (pc := 50) d_Mod_duplicate_50 (rx_lt (by decide)) rfl (ms_in hI g1 (by decide)) ?_
      refine rx_iast C (i := 72) (n := 369) (pc := 51) d_Mod_duplicate_51 (rx_lt (by decide)) (fun _ => rfl) (by subst e6 e5 e4 e3 e2 e1; exact sd_in hI h2 (by decide)) (rx_SI_wr (by omega)) ?_
      refine rx_nm (fun m7 e7 => ?_)
      refine rx_iinc C.1 (v := 7) (pc := 52) d_Mod_duplicate_52 rfl (by decide) (by decide) ?_
      refine rx_goto C.1 (pc := 55) d_Mod_duplicate_55 (tgt := 21) rfl ?_
      refine rx_iload_n C.1 (pc := 21) d_Mod_duplicate_21 rfl ?_
      refine rx_bipush C.1 (v := 9) (pc := 22) d_Mod_duplicate_22 (by decide) ?_
      refine rx_icmp_ge C.1 (pc := 24) d_Mod_duplicate_24 (tgt := 58) rfl (fun h9 => absurd h9 (by decide)) (fun _ => ?_)
      refine rx_aload_n C.1 (pc := 27) d_Mod_duplicate_27 rfl ?_
      refine g_Mod_7 D b ca C (pc := 28) d_Mod_duplicate_28 ?_
      refine rx_bipush C.1 (v := 9) (pc := 31) d_Mod_duplicate_31 (by decide) ?_
      refine rx_aload_n C.1 (pc := 33) d_Mod_duplicate_33 rfl ?_
      refine g_Mod_93 D b ca C (pc := 34) d_Mod_duplicate_34 ?_
      refine rx_imul C.1 (pc := 37) d_Mod_duplicate_37 ?_
      refine rx_iload_n C.1 (pc := 38) d_Mod_duplicate_38 rfl ?_
      refine rx_iadd C.1 (pc := 39) d_Mod_duplicate_39 ?_
      refine rx_aload_n C.1 (pc := 40) d_Mod_duplicate_40 rfl ?_
      refine g_Mod_7 D b ca C (pc := 41) d_Mod_duplicate_41 ?_
      refine rx_bipush C.1 (v := 9) (pc := 44) d_Mod_duplicate_44 (by decide) ?_
      refine rx_iload_n C.1 (pc := 46) d_Mod_duplicate_46 rfl ?_
      refine rx_imul C.1 (pc := 47) d_Mod_duplicate_47 ?_
      refine rx_iload_n C.1 (pc := 48) d_Mod_duplicate_48 rfl ?_
      refine rx_iadd C.1 (pc := 49) d_Mod_duplicate_49 ?_
      refine rx_iald C (i := 72) (n := 369) (pc := 50) d_Mod_duplicate_50 (rx_lt (by decide)) rfl (ms_in hI g1 (by decide)) ?_
      refine rx_iast C (i := 72) (n := 369) (pc := 51) d_Mod_duplicate_51 (rx_lt (by decide)) (fun _ => rfl) (by subst e7 e6 e5 e4 e3 e2 e1; exact sd_in hI h2 (by decide)) (rx_SI_wr (by omega)) ?_
      refine rx_nm (fun m8 e8 => ?_)
      refine rx_iinc C.1 (v := 8) (pc := 52) d_Mod_duplicate_52 rfl (by decide) (by decide) ?_
      refine rx_goto C.1 (pc := 55) d_Mod_duplicate_55 (tgt := 21) rfl ?_
      refine rx_iload_n C.1 (pc := 21) d_Mod_duplicate_21 rfl ?_
      refine rx_bipush C.1 (v := 9) (pc := 22) d_Mod_duplicate_22 (by decide) ?_
      refine rx_icmp_ge C.1 (pc := 24) d_Mod_duplicate_24 (tgt := 58) rfl (fun h9 => absurd h9 (by decide)) (fun _ => ?_)
      refine rx_aload_n C.1 (pc := 27) d_Mod_duplicate_27 rfl ?_
      refine g_Mod_7 D b ca C (pc := 28) d_Mod_duplicate_28 ?_
      refine rx_bipush C.1 (v := 9) (pc := 31) d_Mod_duplicate_31 (by decide) ?_
      refine rx_aload_n C.1 (pc := 33) d_Mod_duplicate_33 rfl ?_
      refine g_Mod_93 D b ca C (pc := 34) d_Mod_duplicate_34 ?_
      refine rx_imul C.1 (pc := 37) d_Mod_duplicate_37 ?_
      refine rx_iload_n C.1 (pc := 38) d_Mod_duplicate_38 rfl ?_
      refine rx_iadd C.1 (pc := 39) d_Mod_duplicate_39 ?_
      refine rx_aload_n C.1 (pc := 40) d_Mod_duplicate_40 rfl ?_
      refine g_Mod_7 D b ca C (pc := 41) d_Mod_duplicate_41 ?_
      refine rx_bipush C.1 (v := 9) (pc := 44) d_Mod_duplicate_44 (by decide) ?_
      refine rx_iload_n C.1 (pc := 46) d_Mod_duplicate_46 rfl ?_
      refine rx_imul C.1 (pc := 47) d_Mod_duplicate_47 ?_
      refine rx_iload_n C.1 (pc := 48) d_Mod_duplicate_48 rfl ?_
      refine rx_iadd C.1 (pc := 49) d_Mod_duplicate_49 ?_
      refine rx_iald C (i := 72) (n := 369) (pc := 50) d_Mod_duplicate_50 (rx_lt (by decide)) rfl (ms_in hI g1 (by decide)) ?_
      refine rx_iast C (i := 72) (n := 369) (pc := 51) d_Mod_duplicate_51 (rx_lt (by decide)) (fun _ => rfl) (by subst e8 e7 e6 e5 e4 e3 e2 e1; exact sd_in hI h2 (by decide)) (rx_SI_wr (by omega)) ?_
      refine rx_nm (fun m9 e9 => ?_)
      refine rx_iinc C.1 (v := 9) (pc := 52) d_Mod_duplicate_52 rfl (by decide) (by decide) ?_
      refine rx_goto C.1 (pc := 55) d_Mod_duplicate_55 (tgt := 21) rfl ?_
      refine rx_iload_n C.1 (pc := 21) d_Mod_duplicate_21 rfl ?_
      refine rx_bipush C.1 (v := 9) (pc := 22) d_Mod_duplicate_22 (by decide) ?_
      refine rx_icmp_ge C.1 (pc := 24) d_Mod_duplicate_24 (tgt := 58) rfl (fun _ => ?_) (fun h9 => absurd (by decide) h9) 
      refine rx_aload_n C.1 (pc := 58) d_Mod_duplicate_58 rfl ?_
      refine rx_dup C.1 (pc := 59) d_Mod_duplicate_59 rfl ?_
      refine g_Mod_93 D b ca C (pc := 60) d_Mod_duplicate_60 ?_
      refine rx_iconst C.1 (v := 1) (pc := 63) d_Mod_duplicate_63 (by decide) ?_
      refine rx_iadd C.1 (pc := 64) d_Mod_duplicate_64 ?_
      have hz : 0 ≤ (m9 71 4 + 1).toInt ∧ (m9 71 4 + 1).toInt ≤ 40 := by subst e9 e8 e7 e6 e5 e4 e3 e2 e1; exact sd_z hI h2
      refine p_Mod_93 D b ca C (pc := 65) d_Mod_duplicate_65 (by assumption) ?_
      refine rx_nm (fun m10 e10 => ?_)
      refine rx_iconst C.1 (v := 1) (pc := 68) d_Mod_duplicate_68 (by decide) ?_
      exact rx_zret C (pc := 69) d_Mod_duplicate_69 (Or.inr rfl) (by subst e10 e9 e8 e7 e6 e5 e4 e3 e2 e1; unfold sp_Mod_duplicate; first | (simp only [if_neg h1, if_pos h2]; done) | (simp only [if_neg h1, if_pos h2]; rfl)) (by subst e10 e9 e8 e7 e6 e5 e4 e3 e2 e1; unfold sp_Mod_duplicate; first | (simp only [if_neg h1, if_pos h2]; done) | (simp only [if_neg h1, if_pos h2]; rfl))
    ·
      refine rx_iconst C.1 (v := 0) (pc := 17) d_Mod_duplicate_17 (by decide) ?_
      exact rx_zret C (pc := 18) d_Mod_duplicate_18 (Or.inl rfl) (by unfold sp_Mod_duplicate; first | (simp only [if_neg h1, if_neg h2]; done) | (simp only [if_neg h1, if_neg h2]; rfl)) (by unfold sp_Mod_duplicate; first | (simp only [if_neg h1, if_neg h2]; done) | (simp only [if_neg h1, if_neg h2]; rfl))
def sp_Mod_say (σ : rMem) (m : Int32) : rMem × Int32 := if (rv_Mod_isMobile m) = 0 then (σ, (-1)) else (if (σ 92 m.toNatClampNeg) < 200 then (let m1 := rx_wr σ 92 m.toNatClampNeg ((σ 92 m.toNatClampNeg) + 1); let m2 := sp_Mod_pump m1 m; (m2, (m2 92 m.toNatClampNeg))) else (σ, (-1)))
set_option maxHeartbeats 4000000 in
set_option maxRecDepth 100000 in
theorem c_Mod_say (l : Launch) (D : va_G) (b : Nat) (ca : Nat → ClassId) {σ : rMem} {m : Int32} : rx_C l (rx_fin D b ca) y_Mod_say b_Mod_say 2 (some .int) (rx_rm 2) [.ref (rg_A (rx_fin D b ca) 71), .int m] σ (some (.int (sp_Mod_say σ m).2)) (sp_Mod_say σ m).1 := by
  refine rx_of (lo := [(0, .ref (rg_A (rx_fin D b ca) 71)), (1, .int m)]) (by decide) (rx_fin_D D b ca) rfl (Nat.le_of_ble_eq_true rfl) rfl ?_
  intro p e s mm below meth c C
  refine rx_iload_n C.1 (pc := 0) d_Mod_say_0 rfl ?_
  refine q_Mod_101 C.1 (pc := 1) d_Mod_say_1 (c_Mod_isMobile l ) ⟨Nat.le_of_ble_eq_true rfl, Nat.le_of_ble_eq_true rfl⟩ ⟨Nat.zero_le _, Nat.zero_le _⟩ (Nat.le_of_ble_eq_true rfl) ?_
  refine rx_if_eq C.1 (pc := 4) d_Mod_say_4 (tgt := 19) rfl (fun h1 => ?_) (fun h1 => ?_)
  ·
    refine rx_iconst C.1 (v := (-1)) (pc := 19) d_Mod_say_19 (by decide) ?_
    exact rx_iret C (pc := 20) d_Mod_say_20 (by unfold sp_Mod_say; first | (simp only [if_pos h1]; done) | (simp only [if_pos h1]; rfl)) (by unfold sp_Mod_say; first | (simp only [if_pos h1]; done) | (simp only [if_pos h1]; rfl))
  ·
    have g1 := rm_Mod h1
    have j1 := rx_j2 g1
    refine rx_aload_n C.1 (pc := 7) d_Mod_say_7 rfl ?_
    refine g_Mod_70 D b ca C (pc := 8) d_Mod_say_8 ?_
    refine rx_iload_n C.1 (pc := 11) d_Mod_say_11 rfl ?_
    refine rx_iald C (i := 92) (n := 2) (pc := 12) d_Mod_say_12 (rx_lt (by decide)) rfl (by first | assumption | exact rx_in2 (by assumption) | exact rx_v02 | exact rx_v12 | exact vp_in_iff.mpr (by decide) | exact fa_in (by assumption) (by assumption) | exact fa_in (by assumption) rx_iM0 | exact fa_in (by assumption) rx_iM1) ?_
    refine rx_sipush C.1 (v := 200) (pc := 13) d_Mod_say_13 (by decide) ?_
    refine rx_icmp_lt C.1 (pc := 16) d_Mod_say_16 (tgt := 21) rfl (fun h2 => ?_) (fun h2 => ?_)
    ·
      refine rx_aload_n C.1 (pc := 21) d_Mod_say_21 rfl ?_
      refine g_Mod_70 D b ca C (pc := 22) d_Mod_say_22 ?_
      refine rx_iload_n C.1 (pc := 25) d_Mod_say_25 rfl ?_
      refine rx_dup2_11 C.1 (pc := 26) d_Mod_say_26 rfl rfl ?_
      refine rx_iald C (i := 92) (n := 2) (pc := 27) d_Mod_say_27 (rx_lt (by decide)) rfl (by first | assumption | exact rx_in2 (by assumption) | exact rx_v02 | exact rx_v12 | exact vp_in_iff.mpr (by decide) | exact fa_in (by assumption) (by assumption) | exact fa_in (by assumption) rx_iM0 | exact fa_in (by assumption) rx_iM1) ?_
      refine rx_iconst C.1 (v := 1) (pc := 28) d_Mod_say_28 (by decide) ?_
      refine rx_iadd C.1 (pc := 29) d_Mod_say_29 ?_
      have hz := sy_ok h2
      refine rx_iast C (i := 92) (n := 2) (pc := 30) d_Mod_say_30 (rx_lt (by decide)) (fun _ => rfl) (by first | assumption | exact rx_in2 (by assumption) | exact rx_v02 | exact rx_v12 | exact vp_in_iff.mpr (by decide) | exact fa_in (by assumption) (by assumption) | exact fa_in (by assumption) rx_iM0 | exact fa_in (by assumption) rx_iM1) (rx_SI_cnt (by omega) hz) ?_
      refine rx_nm (fun m1 e1 => ?_)
      refine rx_aload_n C.1 (pc := 31) d_Mod_say_31 rfl ?_
      refine rx_iload_n C.1 (pc := 32) d_Mod_say_32 rfl ?_
      refine q_Mod_128 D b ca C (pc := 33) d_Mod_say_33 (c_Mod_pump l D b ca (by first | assumption | exact rx_iM0 | exact rx_iM1 | (constructor <;> omega))) ⟨Nat.le_of_ble_eq_true rfl, Nat.le_of_ble_eq_true rfl⟩ ⟨Nat.zero_le _, Nat.zero_le _⟩ (Nat.le_of_ble_eq_true rfl) ?_
      refine rx_nm (fun m2 e2 => ?_)
      refine rx_aload_n C.1 (pc := 36) d_Mod_say_36 rfl ?_
      refine g_Mod_70 D b ca C (pc := 37) d_Mod_say_37 ?_
      refine rx_iload_n C.1 (pc := 40) d_Mod_say_40 rfl ?_
      refine rx_iald C (i := 92) (n := 2) (pc := 41) d_Mod_say_41 (rx_lt (by decide)) rfl (by first | assumption | exact rx_in2 (by assumption) | exact rx_v02 | exact rx_v12 | exact vp_in_iff.mpr (by decide) | exact fa_in (by assumption) (by assumption) | exact fa_in (by assumption) rx_iM0 | exact fa_in (by assumption) rx_iM1) ?_
      exact rx_iret C (pc := 42) d_Mod_say_42 (by subst e2 e1; unfold sp_Mod_say; first | (simp only [if_neg h1, if_pos h2]; done) | (simp only [if_neg h1, if_pos h2]; rfl)) (by subst e2 e1; unfold sp_Mod_say; first | (simp only [if_neg h1, if_pos h2]; done) | (simp only [if_neg h1, if_pos h2]; rfl))
    ·
      refine rx_iconst C.1 (v := (-1)) (pc := 19) d_Mod_say_19 (by decide) ?_
      exact rx_iret C (pc := 20) d_Mod_say_20 (by unfold sp_Mod_say; first | (simp only [if_neg h1, if_neg h2]; done) | (simp only [if_neg h1, if_neg h2]; rfl)) (by unfold sp_Mod_say; first | (simp only [if_neg h1, if_neg h2]; done) | (simp only [if_neg h1, if_neg h2]; rfl))
def sp_Mod_ack (σ : rMem) (m : Int32) : rMem := if (σ 94 m.toNatClampNeg) < (σ 73 (Int32.toNatClampNeg 4)) then (let m1 := rx_wr σ 94 m.toNatClampNeg (σ 73 (Int32.toNatClampNeg 4)); let m2 := rx_wr m1 95 m.toNatClampNeg (m1 71 3); let m3 := sp_Mod_pump m2 m; m3) else σ
set_option maxHeartbeats 4000000 in
set_option maxRecDepth 100000 in
theorem c_Mod_ack (l : Launch) (D : va_G) (b : Nat) (ca : Nat → ClassId) {σ : rMem} {m : Int32} (hm : rx_iM m) : rx_C l (rx_fin D b ca) y_Mod_ack b_Mod_ack 2 none (rx_rm 2) [.ref (rg_A (rx_fin D b ca) 71), .int m] σ none (sp_Mod_ack σ m) := by
  refine rx_of (lo := [(0, .ref (rg_A (rx_fin D b ca) 71)), (1, .int m)]) (by decide) (rx_fin_D D b ca) rfl (Nat.le_of_ble_eq_true rfl) rfl ?_
  intro p e s mm below meth c C
  refine rx_aload_n C.1 (pc := 0) d_Mod_ack_0 rfl ?_
  refine g_Mod_13 D b ca C (pc := 1) d_Mod_ack_1 ?_
  refine rx_iconst C.1 (v := 4) (pc := 4) d_Mod_ack_4 (by decide) ?_
  refine rx_iald C (i := 73) (n := 9) (pc := 5) d_Mod_ack_5 (rx_lt (by decide)) rfl (by first | assumption | exact rx_in2 (by assumption) | exact rx_v02 | exact rx_v12 | exact vp_in_iff.mpr (by decide) | exact fa_in (by assumption) (by assumption) | exact fa_in (by assumption) rx_iM0 | exact fa_in (by assumption) rx_iM1) ?_
  refine rx_aload_n C.1 (pc := 6) d_Mod_ack_6 rfl ?_
  refine g_Mod_76 D b ca C (pc := 7) d_Mod_ack_7 ?_
  refine rx_iload_n C.1 (pc := 10) d_Mod_ack_10 rfl ?_
  refine rx_iald C (i := 94) (n := 2) (pc := 11) d_Mod_ack_11 (rx_lt (by decide)) rfl (by first | assumption | exact rx_in2 (by assumption) | exact rx_v02 | exact rx_v12 | exact vp_in_iff.mpr (by decide) | exact fa_in (by assumption) (by assumption) | exact fa_in (by assumption) rx_iM0 | exact fa_in (by assumption) rx_iM1) ?_
  refine rx_icmp_gt C.1 (pc := 12) d_Mod_ack_12 (tgt := 16) rfl (fun h1 => ?_) (fun h1 => ?_)
  ·
    refine rx_aload_n C.1 (pc := 16) d_Mod_ack_16 rfl ?_
    refine g_Mod_76 D b ca C (pc := 17) d_Mod_ack_17 ?_
    refine rx_iload_n C.1 (pc := 20) d_Mod_ack_20 rfl ?_
    refine rx_aload_n C.1 (pc := 21) d_Mod_ack_21 rfl ?_
    refine g_Mod_13 D b ca C (pc := 22) d_Mod_ack_22 ?_
    refine rx_iconst C.1 (v := 4) (pc := 25) d_Mod_ack_25 (by decide) ?_
    refine rx_iald C (i := 73) (n := 9) (pc := 26) d_Mod_ack_26 (rx_lt (by decide)) rfl (by first | assumption | exact rx_in2 (by assumption) | exact rx_v02 | exact rx_v12 | exact vp_in_iff.mpr (by decide) | exact fa_in (by assumption) (by assumption) | exact fa_in (by assumption) rx_iM0 | exact fa_in (by assumption) rx_iM1) ?_
    refine rx_iast C (i := 94) (n := 2) (pc := 27) d_Mod_ack_27 (rx_lt (by decide)) (fun _ => rfl) (by first | assumption | exact rx_in2 (by assumption) | exact rx_v02 | exact rx_v12 | exact vp_in_iff.mpr (by decide) | exact fa_in (by assumption) (by assumption) | exact fa_in (by assumption) rx_iM0 | exact fa_in (by assumption) rx_iM1) (rx_SI_wr (by omega)) ?_
    refine rx_nm (fun m1 e1 => ?_)
    refine rx_aload_n C.1 (pc := 28) d_Mod_ack_28 rfl ?_
    refine g_Mod_79 D b ca C (pc := 29) d_Mod_ack_29 ?_
    refine rx_iload_n C.1 (pc := 32) d_Mod_ack_32 rfl ?_
    refine rx_aload_n C.1 (pc := 33) d_Mod_ack_33 rfl ?_
    refine g_Mod_113 D b ca C (pc := 34) d_Mod_ack_34 ?_
    refine rx_iast C (i := 95) (n := 2) (pc := 37) d_Mod_ack_37 (rx_lt (by decide)) (fun _ => rfl) (by first | assumption | exact rx_in2 (by assumption) | exact rx_v02 | exact rx_v12 | exact vp_in_iff.mpr (by decide) | exact fa_in (by assumption) (by assumption) | exact fa_in (by assumption) rx_iM0 | exact fa_in (by assumption) rx_iM1) (rx_SI_wr (by omega)) ?_
    refine rx_nm (fun m2 e2 => ?_)
    refine rx_aload_n C.1 (pc := 38) d_Mod_ack_38 rfl ?_
    refine rx_iload_n C.1 (pc := 39) d_Mod_ack_39 rfl ?_
    refine q_Mod_128 D b ca C (pc := 40) d_Mod_ack_40 (c_Mod_pump l D b ca (by first | assumption | exact rx_iM0 | exact rx_iM1 | (constructor <;> omega))) ⟨Nat.le_of_ble_eq_true rfl, Nat.le_of_ble_eq_true rfl⟩ ⟨Nat.zero_le _, Nat.zero_le _⟩ (Nat.le_of_ble_eq_true rfl) ?_
    refine rx_nm (fun m3 e3 => ?_)
    exact rx_vret C (pc := 43) d_Mod_ack_43 (by subst e3 e2 e1; unfold sp_Mod_ack; first | (simp only [if_pos h1]; done) | (simp only [if_pos h1]; rfl))
  ·
    exact rx_vret C (pc := 15) d_Mod_ack_15 (by unfold sp_Mod_ack; first | (simp only [if_neg h1]; done) | (simp only [if_neg h1]; rfl))
def sp_Mod_drop (σ : rMem) (i : Int32) : rMem × Int32 := if (rv_Mod_isMessage σ i) = 0 then (σ, 0) else (let m1 := sp_Mod_take σ i; (m1, 1))
set_option maxHeartbeats 4000000 in
set_option maxRecDepth 100000 in
theorem c_Mod_drop (l : Launch) (D : va_G) (b : Nat) (ca : Nat → ClassId) {σ : rMem} {i : Int32} : rx_C l (rx_fin D b ca) y_Mod_drop b_Mod_drop 2 (some .boolean) (rx_rm 1) [.ref (rg_A (rx_fin D b ca) 71), .int i] σ (some (.int (sp_Mod_drop σ i).2)) (sp_Mod_drop σ i).1 := by
  refine rx_of (lo := [(0, .ref (rg_A (rx_fin D b ca) 71)), (1, .int i)]) (by decide) (rx_fin_D D b ca) rfl (Nat.le_of_ble_eq_true rfl) rfl ?_
  intro p e s mm below meth c C
  refine rx_aload_n C.1 (pc := 0) d_Mod_drop_0 rfl ?_
  refine rx_iload_n C.1 (pc := 1) d_Mod_drop_1 rfl ?_
  refine q_Mod_132 D b ca C (pc := 2) d_Mod_drop_2 (c_Mod_isMessage l D b ca ) ⟨Nat.le_of_ble_eq_true rfl, Nat.le_of_ble_eq_true rfl⟩ ⟨Nat.zero_le _, Nat.zero_le _⟩ (Nat.le_of_ble_eq_true rfl) ?_
  refine rx_if_ne C.1 (pc := 5) d_Mod_drop_5 (tgt := 10) rfl (fun h1 => ?_) (fun h1 => ?_)
  ·
    have g1 := rh_Mod h1
    refine rx_aload_n C.1 (pc := 10) d_Mod_drop_10 rfl ?_
    refine rx_iload_n C.1 (pc := 11) d_Mod_drop_11 rfl ?_
    refine q_Mod_135 D b ca C (pc := 12) d_Mod_drop_12 (c_Mod_take l D b ca (by first | assumption | exact rx_iM0 | exact rx_iM1 | (constructor <;> omega))) ⟨Nat.le_of_ble_eq_true rfl, Nat.le_of_ble_eq_true rfl⟩ ⟨Nat.zero_le _, Nat.zero_le _⟩ (Nat.le_of_ble_eq_true rfl) ?_
    refine rx_nm (fun m1 e1 => ?_)
    refine rx_iconst C.1 (v := 1) (pc := 15) d_Mod_drop_15 (by decide) ?_
    exact rx_zret C (pc := 16) d_Mod_drop_16 (Or.inr rfl) (by subst e1; unfold sp_Mod_drop; first | (simp only [if_neg h1]; done) | (simp only [if_neg h1]; rfl)) (by subst e1; unfold sp_Mod_drop; first | (simp only [if_neg h1]; done) | (simp only [if_neg h1]; rfl))
  ·
    refine rx_iconst C.1 (v := 0) (pc := 8) d_Mod_drop_8 (by decide) ?_
    exact rx_zret C (pc := 9) d_Mod_drop_9 (Or.inl rfl) (by unfold sp_Mod_drop; first | (simp only [if_pos h1]; done) | (simp only [if_pos h1]; rfl)) (by unfold sp_Mod_drop; first | (simp only [if_pos h1]; done) | (simp only [if_pos h1]; rfl))
def st_adv0 (σ : rMem) : rMem := if σ 71 3 - σ 71 3 / 4 * 4 = 0 then (if σ 74 (Int32.toNatClampNeg 0) = 0 then sp_Mod_send σ 1 5 0 0 0 0 0 0 0 else σ) else σ
set_option maxHeartbeats 4000000 in
set_option maxRecDepth 100000 in
theorem it_Mod_adv0 (l : Launch) (D : va_G) (b : Nat) (ca : Nat → ClassId) {p : Program} {e : Env} {s : State} {mm : MethodId} {args : Array Value} {below : List Frame} {meth : Method} {c : Code} {H0 : Heap} {Q : State → Prop} {σ : rMem}  (C : rx_Cw p s mm args meth c R_Mod b_Mod_oneTick 4 none (rx_fin D b ca)) 
    (kb : rx_X p l e (rx_rm 4) s mm args below meth c (rg_O (rx_fin D b ca)) H0 0 0 Q 4 (rx_m (rx_fin D b ca) (st_adv0 σ)) 12 [(1, .int 1), (0, .ref (rg_A (rx_fin D b ca) 71))] []) : rx_X p l e (rx_rm 4) s mm args below meth c (rg_O (rx_fin D b ca)) H0 0 0 Q 4 (rx_m (rx_fin D b ca) σ) 12 [(1, .int 0), (0, .ref (rg_A (rx_fin D b ca) 71))] [] := by
  refine rx_iload_n C.1 (pc := 12) d_Mod_oneTick_12 rfl ?_
  refine rx_bipush C.1 (v := 8) (pc := 13) d_Mod_oneTick_13 (by decide) ?_
  refine rx_icmp_ge C.1 (pc := 15) d_Mod_oneTick_15 (tgt := 66) rfl (fun h9 => absurd h9 (by decide)) (fun _ => ?_)
  refine rx_aload_n C.1 (pc := 18) d_Mod_oneTick_18 rfl ?_
  refine g_Mod_113 D b ca C (pc := 19) d_Mod_oneTick_19 ?_
  refine rx_iconst C.1 (v := 4) (pc := 22) d_Mod_oneTick_22 (by decide) ?_
  refine rx_irem C.1 (pc := 23) d_Mod_oneTick_23 (by decide) ?_
  refine rx_if_ne C.1 (pc := 24) d_Mod_oneTick_24 (tgt := 60) rfl (fun h1 => ?_) (fun h1 => ?_)
  ·
    refine rx_iinc C.1 (v := 1) (pc := 60) d_Mod_oneTick_60 rfl (by decide) (by decide) ?_
    refine rx_goto C.1 (pc := 63) d_Mod_oneTick_63 (tgt := 12) rfl ?_
    refine rx_loc C.1 (rx_sub_all (lo' := [(1, .int 1), (0, .ref (rg_A (rx_fin D b ca) 71))]) ⟨rfl, rfl, trivial⟩) ?_
    unfold st_adv0 at kb
    first | (rw [if_neg h1] at kb; exact kb) | (rw [if_pos h1, if_neg h2] at kb; exact kb) | (rw [if_pos h1, if_pos h2] at kb; exact kb)
  ·
    refine rx_aload_n C.1 (pc := 27) d_Mod_oneTick_27 rfl ?_
    refine g_Mod_16 D b ca C (pc := 28) d_Mod_oneTick_28 ?_
    refine rx_iload_n C.1 (pc := 31) d_Mod_oneTick_31 rfl ?_
    refine rx_iconst C.1 (v := 2) (pc := 32) d_Mod_oneTick_32 (by decide) ?_
    refine rx_iremv C.1 (v := 0) (pc := 33) d_Mod_oneTick_33 (by decide) (by decide) ?_
    refine rx_iald C (i := 74) (n := 2) (pc := 34) d_Mod_oneTick_34 (rx_lt (by decide)) rfl (by first | assumption | exact rx_in2 (by assumption) | exact rx_v02 | exact rx_v12 | exact vp_in_iff.mpr (by decide) | exact fa_in (by assumption) (by assumption) | exact fa_in (by assumption) rx_iM0 | exact fa_in (by assumption) rx_iM1) ?_
    refine rx_iload_n C.1 (pc := 35) d_Mod_oneTick_35 rfl ?_
    refine rx_iconst C.1 (v := 2) (pc := 36) d_Mod_oneTick_36 (by decide) ?_
    refine rx_idivv C.1 (v := 0) (pc := 37) d_Mod_oneTick_37 (by decide) (by decide) ?_
    refine rx_icmp_ne C.1 (pc := 38) d_Mod_oneTick_38 (tgt := 60) rfl (fun h2 => ?_) (fun h2 => ?_)
    ·
      refine rx_iinc C.1 (v := 1) (pc := 60) d_Mod_oneTick_60 rfl (by decide) (by decide) ?_
      refine rx_goto C.1 (pc := 63) d_Mod_oneTick_63 (tgt := 12) rfl ?_
      refine rx_loc C.1 (rx_sub_all (lo' := [(1, .int 1), (0, .ref (rg_A (rx_fin D b ca) 71))]) ⟨rfl, rfl, trivial⟩) ?_
      unfold st_adv0 at kb
      first | (rw [if_neg h1] at kb; exact kb) | (rw [if_pos h1, if_neg h2] at kb; exact kb) | (rw [if_pos h1, if_pos h2] at kb; exact kb)
    ·
      refine rx_aload_n C.1 (pc := 41) d_Mod_oneTick_41 rfl ?_
      refine rx_iconst C.1 (v := 1) (pc := 42) d_Mod_oneTick_42 (by decide) ?_
      refine rx_iconst C.1 (v := 5) (pc := 43) d_Mod_oneTick_43 (by decide) ?_
      refine rx_iload_n C.1 (pc := 44) d_Mod_oneTick_44 rfl ?_
      refine rx_iconst C.1 (v := 2) (pc := 45) d_Mod_oneTick_45 (by decide) ?_
      refine rx_iremv C.1 (v := 0) (pc := 46) d_Mod_oneTick_46 (by decide) (by decide) ?_
      refine rx_iload_n C.1 (pc := 47) d_Mod_oneTick_47 rfl ?_
      refine rx_iconst C.1 (v := 2) (pc := 48) d_Mod_oneTick_48 (by decide) ?_
      refine rx_idivv C.1 (v := 0) (pc := 49) d_Mod_oneTick_49 (by decide) (by decide) ?_
      refine rx_iload_n C.1 (pc := 50) d_Mod_oneTick_50 rfl ?_
      refine rx_iconst C.1 (v := 2) (pc := 51) d_Mod_oneTick_51 (by decide) ?_
      refine rx_idivv C.1 (v := 0) (pc := 52) d_Mod_oneTick_52 (by decide) (by decide) ?_
      refine rx_iconst C.1 (v := 0) (pc := 53) d_Mod_oneTick_53 (by decide) ?_
      refine rx_iconst C.1 (v := 0) (pc := 54) d_Mod_oneTick_54 (by decide) ?_
      refine rx_iconst C.1 (v := 0) (pc := 55) d_Mod_oneTick_55 (by decide) ?_
      refine rx_iconst C.1 (v := 0) (pc := 56) d_Mod_oneTick_56 (by decide) ?_
      refine q_Mod_109 D b ca C (pc := 57) d_Mod_oneTick_57 (c_Mod_send l D b ca ) ⟨Nat.le_of_ble_eq_true rfl, Nat.le_of_ble_eq_true rfl⟩ ⟨Nat.zero_le _, Nat.zero_le _⟩ (Nat.le_of_ble_eq_true rfl) ?_
      refine rx_iinc C.1 (v := 1) (pc := 60) d_Mod_oneTick_60 rfl (by decide) (by decide) ?_
      refine rx_goto C.1 (pc := 63) d_Mod_oneTick_63 (tgt := 12) rfl ?_
      refine rx_loc C.1 (rx_sub_all (lo' := [(1, .int 1), (0, .ref (rg_A (rx_fin D b ca) 71))]) ⟨rfl, rfl, trivial⟩) ?_
      unfold st_adv0 at kb
      first | (rw [if_neg h1] at kb; exact kb) | (rw [if_pos h1, if_neg h2] at kb; exact kb) | (rw [if_pos h1, if_pos h2] at kb; exact kb)
def st_adv1 (σ : rMem) : rMem := if σ 71 3 - σ 71 3 / 4 * 4 = 0 then (if σ 74 (Int32.toNatClampNeg 1) = 0 then sp_Mod_send σ 1 5 1 0 0 0 0 0 0 else σ) else σ
set_option maxHeartbeats 4000000 in
set_option maxRecDepth 100000 in
theorem it_Mod_adv1 (l : Launch) (D : va_G) (b : Nat) (ca : Nat → ClassId) {p : Program} {e : Env} {s : State} {mm : MethodId} {args : Array Value} {below : List Frame} {meth : Method} {c : Code} {H0 : Heap} {Q : State → Prop} {σ : rMem}  (C : rx_Cw p s mm args meth c R_Mod b_Mod_oneTick 4 none (rx_fin D b ca)) 
    (kb : rx_X p l e (rx_rm 4) s mm args below meth c (rg_O (rx_fin D b ca)) H0 0 0 Q 4 (rx_m (rx_fin D b ca) (st_adv1 σ)) 12 [(1, .int 2), (0, .ref (rg_A (rx_fin D b ca) 71))] []) : rx_X p l e (rx_rm 4) s mm args below meth c (rg_O (rx_fin D b ca)) H0 0 0 Q 4 (rx_m (rx_fin D b ca) σ) 12 [(1, .int 1), (0, .ref (rg_A (rx_fin D b ca) 71))] [] := by
  refine rx_iload_n C.1 (pc := 12) d_Mod_oneTick_12 rfl ?_
  refine rx_bipush C.1 (v := 8) (pc := 13) d_Mod_oneTick_13 (by decide) ?_
  refine rx_icmp_ge C.1 (pc := 15) d_Mod_oneTick_15 (tgt := 66) rfl (fun h9 => absurd h9 (by decide)) (fun _ => ?_)
  refine rx_aload_n C.1 (pc := 18) d_Mod_oneTick_18 rfl ?_
  refine g_Mod_113 D b ca C (pc := 19) d_Mod_oneTick_19 ?_
  refine rx_iconst C.1 (v := 4) (pc := 22) d_Mod_oneTick_22 (by decide) ?_
  refine rx_irem C.1 (pc := 23) d_Mod_oneTick_23 (by decide) ?_
  refine rx_if_ne C.1 (pc := 24) d_Mod_oneTick_24 (tgt := 60) rfl (fun h1 => ?_) (fun h1 => ?_)
  ·
    refine rx_iinc C.1 (v := 2) (pc := 60) d_Mod_oneTick_60 rfl (by decide) (by decide) ?_
    refine rx_goto C.1 (pc := 63) d_Mod_oneTick_63 (tgt := 12) rfl ?_
    refine rx_loc C.1 (rx_sub_all (lo' := [(1, .int 2), (0, .ref (rg_A (rx_fin D b ca) 71))]) ⟨rfl, rfl, trivial⟩) ?_
    unfold st_adv1 at kb
    first | (rw [if_neg h1] at kb; exact kb) | (rw [if_pos h1, if_neg h2] at kb; exact kb) | (rw [if_pos h1, if_pos h2] at kb; exact kb)
  ·
    refine rx_aload_n C.1 (pc := 27) d_Mod_oneTick_27 rfl ?_
    refine g_Mod_16 D b ca C (pc := 28) d_Mod_oneTick_28 ?_
    refine rx_iload_n C.1 (pc := 31) d_Mod_oneTick_31 rfl ?_
    refine rx_iconst C.1 (v := 2) (pc := 32) d_Mod_oneTick_32 (by decide) ?_
    refine rx_iremv C.1 (v := 1) (pc := 33) d_Mod_oneTick_33 (by decide) (by decide) ?_
    refine rx_iald C (i := 74) (n := 2) (pc := 34) d_Mod_oneTick_34 (rx_lt (by decide)) rfl (by first | assumption | exact rx_in2 (by assumption) | exact rx_v02 | exact rx_v12 | exact vp_in_iff.mpr (by decide) | exact fa_in (by assumption) (by assumption) | exact fa_in (by assumption) rx_iM0 | exact fa_in (by assumption) rx_iM1) ?_
    refine rx_iload_n C.1 (pc := 35) d_Mod_oneTick_35 rfl ?_
    refine rx_iconst C.1 (v := 2) (pc := 36) d_Mod_oneTick_36 (by decide) ?_
    refine rx_idivv C.1 (v := 0) (pc := 37) d_Mod_oneTick_37 (by decide) (by decide) ?_
    refine rx_icmp_ne C.1 (pc := 38) d_Mod_oneTick_38 (tgt := 60) rfl (fun h2 => ?_) (fun h2 => ?_)
    ·
      refine rx_iinc C.1 (v := 2) (pc := 60) d_Mod_oneTick_60 rfl (by decide) (by decide) ?_
      refine rx_goto C.1 (pc := 63) d_Mod_oneTick_63 (tgt := 12) rfl ?_
      refine rx_loc C.1 (rx_sub_all (lo' := [(1, .int 2), (0, .ref (rg_A (rx_fin D b ca) 71))]) ⟨rfl, rfl, trivial⟩) ?_
      unfold st_adv1 at kb
      first | (rw [if_neg h1] at kb; exact kb) | (rw [if_pos h1, if_neg h2] at kb; exact kb) | (rw [if_pos h1, if_pos h2] at kb; exact kb)
    ·
      refine rx_aload_n C.1 (pc := 41) d_Mod_oneTick_41 rfl ?_
      refine rx_iconst C.1 (v := 1) (pc := 42) d_Mod_oneTick_42 (by decide) ?_
      refine rx_iconst C.1 (v := 5) (pc := 43) d_Mod_oneTick_43 (by decide) ?_
      refine rx_iload_n C.1 (pc := 44) d_Mod_oneTick_44 rfl ?_
      refine rx_iconst C.1 (v := 2) (pc := 45) d_Mod_oneTick_45 (by decide) ?_
      refine rx_iremv C.1 (v := 1) (pc := 46) d_Mod_oneTick_46 (by decide) (by decide) ?_
      refine rx_iload_n C.1 (pc := 47) d_Mod_oneTick_47 rfl ?_
      refine rx_iconst C.1 (v := 2) (pc := 48) d_Mod_oneTick_48 (by decide) ?_
      refine rx_idivv C.1 (v := 0) (pc := 49) d_Mod_oneTick_49 (by decide) (by decide) ?_
      refine rx_iload_n C.1 (pc := 50) d_Mod_oneTick_50 rfl ?_
      refine rx_iconst C.1 (v := 2) (pc := 51) d_Mod_oneTick_51 (by decide) ?_
      refine rx_idivv C.1 (v := 0) (pc := 52) d_Mod_oneTick_52 (by decide) (by decide) ?_
      refine rx_iconst C.1 (v := 0) (pc := 53) d_Mod_oneTick_53 (by decide) ?_
      refine rx_iconst C.1 (v := 0) (pc := 54) d_Mod_oneTick_54 (by decide) ?_
      refine rx_iconst C.1 (v := 0) (pc := 55) d_Mod_oneTick_55 (by decide) ?_
      refine rx_iconst C.1 (v := 0) (pc := 56) d_Mod_oneTick_56 (by decide) ?_
      refine q_Mod_109 D b ca C (pc := 57) d_Mod_oneTick_57 (c_Mod_send l D b ca ) ⟨Nat.le_of_ble_eq_true rfl, Nat.le_of_ble_eq_true rfl⟩ ⟨Nat.zero_le _, Nat.zero_le _⟩ (Nat.le_of_ble_eq_true rfl) ?_
      refine rx_iinc C.1 (v := 2) (pc := 60) d_Mod_oneTick_60 rfl (by decide) (by decide) ?_
      refine rx_goto C.1 (pc := 63) d_Mod_oneTick_63 (tgt := 12) rfl ?_
      refine rx_loc C.1 (rx_sub_all (lo' := [(1, .int 2), (0, .ref (rg_A (rx_fin D b ca) 71))]) ⟨rfl, rfl, trivial⟩) ?_
      unfold st_adv1 at kb
      first | (rw [if_neg h1] at kb; exact kb) | (rw [if_pos h1, if_neg h2] at kb; exact kb) | (rw [if_pos h1, if_pos h2] at kb; exact kb)
def st_adv2 (σ : rMem) : rMem := if σ 71 3 - σ 71 3 / 4 * 4 = 0 then (if σ 74 (Int32.toNatClampNeg 0) = 1 then sp_Mod_send σ 1 5 0 1 1 0 0 0 0 else σ) else σ
set_option maxHeartbeats 4000000 in
set_option maxRecDepth 100000 in
theorem it_Mod_adv2 (l : Launch) (D : va_G) (b : Nat) (ca : Nat → ClassId) {p : Program} {e : Env} {s : State} {mm : MethodId} {args : Array Value} {below : List Frame} {meth : Method} {c : Code} {H0 : Heap} {Q : State → Prop} {σ : rMem}  (C : rx_Cw p s mm args meth c R_Mod b_Mod_oneTick 4 none (rx_fin D b ca)) 
    (kb : rx_X p l e (rx_rm 4) s mm args below meth c (rg_O (rx_fin D b ca)) H0 0 0 Q 4 (rx_m (rx_fin D b ca) (st_adv2 σ)) 12 [(1, .int 3), (0, .ref (rg_A (rx_fin D b ca) 71))] []) : rx_X p l e (rx_rm 4) s mm args below meth c (rg_O (rx_fin D b ca)) H0 0 0 Q 4 (rx_m (rx_fin D b ca) σ) 12 [(1, .int 2), (0, .ref (rg_A (rx_fin D b ca) 71))] [] := by
  refine rx_iload_n C.1 (pc := 12) d_Mod_oneTick_12 rfl ?_
  refine rx_bipush C.1 (v := 8) (pc := 13) d_Mod_oneTick_13 (by decide) ?_
  refine rx_icmp_ge C.1 (pc := 15) d_Mod_oneTick_15 (tgt := 66) rfl (fun h9 => absurd h9 (by decide)) (fun _ => ?_)
  refine rx_aload_n C.1 (pc := 18) d_Mod_oneTick_18 rfl ?_
  refine g_Mod_113 D b ca C (pc := 19) d_Mod_oneTick_19 ?_
  refine rx_iconst C.1 (v := 4) (pc := 22) d_Mod_oneTick_22 (by decide) ?_
  refine rx_irem C.1 (pc := 23) d_Mod_oneTick_23 (by decide) ?_
  refine rx_if_ne C.1 (pc := 24) d_Mod_oneTick_24 (tgt := 60) rfl (fun h1 => ?_) (fun h1 => ?_)
  ·
    refine rx_iinc C.1 (v := 3) (pc := 60) d_Mod_oneTick_60 rfl (by decide) (by decide) ?_
    refine rx_goto C.1 (pc := 63) d_Mod_oneTick_63 (tgt := 12) rfl ?_
    refine rx_loc C.1 (rx_sub_all (lo' := [(1, .int 3), (0, .ref (rg_A (rx_fin D b ca) 71))]) ⟨rfl, rfl, trivial⟩) ?_
    unfold st_adv2 at kb
    first | (rw [if_neg h1] at kb; exact kb) | (rw [if_pos h1, if_neg h2] at kb; exact kb) | (rw [if_pos h1, if_pos h2] at kb; exact kb)
  ·
    refine rx_aload_n C.1 (pc := 27) d_Mod_oneTick_27 rfl ?_
    refine g_Mod_16 D b ca C (pc := 28) d_Mod_oneTick_28 ?_
    refine rx_iload_n C.1 (pc := 31) d_Mod_oneTick_31 rfl ?_
    refine rx_iconst C.1 (v := 2) (pc := 32) d_Mod_oneTick_32 (by decide) ?_
    refine rx_iremv C.1 (v := 0) (pc := 33) d_Mod_oneTick_33 (by decide) (by decide) ?_
    refine rx_iald C (i := 74) (n := 2) (pc := 34) d_Mod_oneTick_34 (rx_lt (by decide)) rfl (by first | assumption | exact rx_in2 (by assumption) | exact rx_v02 | exact rx_v12 | exact vp_in_iff.mpr (by decide) | exact fa_in (by assumption) (by assumption) | exact fa_in (by assumption) rx_iM0 | exact fa_in (by assumption) rx_iM1) ?_
    refine rx_iload_n C.1 (pc := 35) d_Mod_oneTick_35 rfl ?_
    refine rx_iconst C.1 (v := 2) (pc := 36) d_Mod_oneTick_36 (by decide) ?_
    refine rx_idivv C.1 (v := 1) (pc := 37) d_Mod_oneTick_37 (by decide) (by decide) ?_
    refine rx_icmp_ne C.1 (pc := 38) d_Mod_oneTick_38 (tgt := 60) rfl (fun h2 => ?_) (fun h2 => ?_)
    ·
      refine rx_iinc C.1 (v := 3) (pc := 60) d_Mod_oneTick_60 rfl (by decide) (by decide) ?_
      refine rx_goto C.1 (pc := 63) d_Mod_oneTick_63 (tgt := 12) rfl ?_
      refine rx_loc C.1 (rx_sub_all (lo' := [(1, .int 3), (0, .ref (rg_A (rx_fin D b ca) 71))]) ⟨rfl, rfl, trivial⟩) ?_
      unfold st_adv2 at kb
      first | (rw [if_neg h1] at kb; exact kb) | (rw [if_pos h1, if_neg h2] at kb; exact kb) | (rw [if_pos h1, if_pos h2] at kb; exact kb)
    ·
      refine rx_aload_n C.1 (pc := 41) d_Mod_oneTick_41 rfl ?_
      refine rx_iconst C.1 (v := 1) (pc := 42) d_Mod_oneTick_42 (by decide) ?_
      refine rx_iconst C.1 (v := 5) (pc := 43) d_Mod_oneTick_43 (by decide) ?_
      refine rx_iload_n C.1 (pc := 44) d_Mod_oneTick_44 rfl ?_
      refine rx_iconst C.1 (v := 2) (pc := 45) d_Mod_oneTick_45 (by decide) ?_
      refine rx_iremv C.1 (v := 0) (pc := 46) d_Mod_oneTick_46 (by decide) (by decide) ?_
      refine rx_iload_n C.1 (pc := 47) d_Mod_oneTick_47 rfl ?_
      refine rx_iconst C.1 (v := 2) (pc := 48) d_Mod_oneTick_48 (by decide) ?_
      refine rx_idivv C.1 (v := 1) (pc := 49) d_Mod_oneTick_49 (by decide) (by decide) ?_
      refine rx_iload_n C.1 (pc := 50) d_Mod_oneTick_50 rfl ?_
      refine rx_iconst C.1 (v := 2) (pc := 51) d_Mod_oneTick_51 (by decide) ?_
      refine rx_idivv C.1 (v := 1) (pc := 52) d_Mod_oneTick_52 (by decide) (by decide) ?_
      refine rx_iconst C.1 (v := 0) (pc := 53) d_Mod_oneTick_53 (by decide) ?_
      refine rx_iconst C.1 (v := 0) (pc := 54) d_Mod_oneTick_54 (by decide) ?_
      refine rx_iconst C.1 (v := 0) (pc := 55) d_Mod_oneTick_55 (by decide) ?_
      refine rx_iconst C.1 (v := 0) (pc := 56) d_Mod_oneTick_56 (by decide) ?_
      refine q_Mod_109 D b ca C (pc := 57) d_Mod_oneTick_57 (c_Mod_send l D b ca ) ⟨Nat.le_of_ble_eq_true rfl, Nat.le_of_ble_eq_true rfl⟩ ⟨Nat.zero_le _, Nat.zero_le _⟩ (Nat.le_of_ble_eq_true rfl) ?_
      refine rx_iinc C.1 (v := 3) (pc := 60) d_Mod_oneTick_60 rfl (by decide) (by decide) ?_
      refine rx_goto C.1 (pc := 63) d_Mod_oneTick_63 (tgt := 12) rfl ?_
      refine rx_loc C.1 (rx_sub_all (lo' := [(1, .int 3), (0, .ref (rg_A (rx_fin D b ca) 71))]) ⟨rfl, rfl, trivial⟩) ?_
      unfold st_adv2 at kb
      first | (rw [if_neg h1] at kb; exact kb) | (rw [if_pos h1, if_neg h2] at kb; exact kb) | (rw [if_pos h1, if_pos h2] at kb; exact kb)
def st_adv3 (σ : rMem) : rMem := if σ 71 3 - σ 71 3 / 4 * 4 = 0 then (if σ 74 (Int32.toNatClampNeg 1) = 1 then sp_Mod_send σ 1 5 1 1 1 0 0 0 0 else σ) else σ
set_option maxHeartbeats 4000000 in
set_option maxRecDepth 100000 in
theorem it_Mod_adv3 (l : Launch) (D : va_G) (b : Nat) (ca : Nat → ClassId) {p : Program} {e : Env} {s : State} {mm : MethodId} {args : Array Value} {below : List Frame} {meth : Method} {c : Code} {H0 : Heap} {Q : State → Prop} {σ : rMem}  (C : rx_Cw p s mm args meth c R_Mod b_Mod_oneTick 4 none (rx_fin D b ca)) 
    (kb : rx_X p l e (rx_rm 4) s mm args below meth c (rg_O (rx_fin D b ca)) H0 0 0 Q 4 (rx_m (rx_fin D b ca) (st_adv3 σ)) 12 [(1, .int 4), (0, .ref (rg_A (rx_fin D b ca) 71))] []) : rx_X p l e (rx_rm 4) s mm args below meth c (rg_O (rx_fin D b ca)) H0 0 0 Q 4 (rx_m (rx_fin D b ca) σ) 12 [(1, .int 3), (0, .ref (rg_A (rx_fin D b ca) 71))] [] := by
  refine rx_iload_n C.1 (pc := 12) d_Mod_oneTick_12 rfl ?_
  refine rx_bipush C.1 (v := 8) (pc := 13) d_Mod_oneTick_13 (by decide) ?_
  refine rx_icmp_ge C.1 (pc := 15) d_Mod_oneTick_15 (tgt := 66) rfl (fun h9 => absurd h9 (by decide)) (fun _ => ?_)
  refine rx_aload_n C.1 (pc := 18) d_Mod_oneTick_18 rfl ?_
  refine g_Mod_113 D b ca C (pc := 19) d_Mod_oneTick_19 ?_
  refine rx_iconst C.1 (v := 4) (pc := 22) d_Mod_oneTick_22 (by decide) ?_
  refine rx_irem C.1 (pc := 23) d_Mod_oneTick_23 (by decide) ?_
  refine rx_if_ne C.1 (pc := 24) d_Mod_oneTick_24 (tgt := 60) rfl (fun h1 => ?_) (fun h1 => ?_)
  ·
    refine rx_iinc C.1 (v := 4) (pc := 60) d_Mod_oneTick_60 rfl (by decide) (by decide) ?_
    refine rx_goto C.1 (pc := 63) d_Mod_oneTick_63 (tgt := 12) rfl ?_
    refine rx_loc C.1 (rx_sub_all (lo' := [(1, .int 4), (0, .ref (rg_A (rx_fin D b ca) 71))]) ⟨rfl, rfl, trivial⟩) ?_
    unfold st_adv3 at kb
    first | (rw [if_neg h1] at kb; exact kb) | (rw [if_pos h1, if_neg h2] at kb; exact kb) | (rw [if_pos h1, if_pos h2] at kb; exact kb)
  ·
    refine rx_aload_n C.1 (pc := 27) d_Mod_oneTick_27 rfl ?_
    refine g_Mod_16 D b ca C (pc := 28) d_Mod_oneTick_28 ?_
    refine rx_iload_n C.1 (pc := 31) d_Mod_oneTick_31 rfl ?_
    refine rx_iconst C.1 (v := 2) (pc := 32) d_Mod_oneTick_32 (by decide) ?_
    refine rx_iremv C.1 (v := 1) (pc := 33) d_Mod_oneTick_33 (by decide) (by decide) ?_
    refine rx_iald C (i := 74) (n := 2) (pc := 34) d_Mod_oneTick_34 (rx_lt (by decide)) rfl (by first | assumption | exact rx_in2 (by assumption) | exact rx_v02 | exact rx_v12 | exact vp_in_iff.mpr (by decide) | exact fa_in (by assumption) (by assumption) | exact fa_in (by assumption) rx_iM0 | exact fa_in (by assumption) rx_iM1) ?_
    refine rx_iload_n C.1 (pc := 35) d_Mod_oneTick_35 rfl ?_
    refine rx_iconst C.1 (v := 2) (pc := 36) d_Mod_oneTick_36 (by decide) ?_
    refine rx_idivv C.1 (v := 1) (pc := 37) d_Mod_oneTick_37 (by decide) (by decide) ?_
    refine rx_icmp_ne C.1 (pc := 38) d_Mod_oneTick_38 (tgt := 60) rfl (fun h2 => ?_) (fun h2 => ?_)
    ·
      refine rx_iinc C.1 (v := 4) (pc := 60) d_Mod_oneTick_60 rfl (by decide) (by decide) ?_
      refine rx_goto C.1 (pc := 63) d_Mod_oneTick_63 (tgt := 12) rfl ?_
      refine rx_loc C.1 (rx_sub_all (lo' := [(1, .int 4), (0, .ref (rg_A (rx_fin D b ca) 71))]) ⟨rfl, rfl, trivial⟩) ?_
      unfold st_adv3 at kb
      first | (rw [if_neg h1] at kb; exact kb) | (rw [if_pos h1, if_neg h2] at kb; exact kb) | (rw [if_pos h1, if_pos h2] at kb; exact kb)
    ·
      refine rx_aload_n C.1 (pc := 41) d_Mod_oneTick_41 rfl ?_
      refine rx_iconst C.1 (v := 1) (pc := 42) d_Mod_oneTick_42 (by decide) ?_
      refine rx_iconst C.1 (v := 5) (pc := 43) d_Mod_oneTick_43 (by decide) ?_
      refine rx_iload_n C.1 (pc := 44) d_Mod_oneTick_44 rfl ?_
      refine rx_iconst C.1 (v := 2) (pc := 45) d_Mod_oneTick_45 (by decide) ?_
      refine rx_iremv C.1 (v := 1) (pc := 46) d_Mod_oneTick_46 (by decide) (by decide) ?_
      refine rx_iload_n C.1 (pc := 47) d_Mod_oneTick_47 rfl ?_
      refine rx_iconst C.1 (v := 2) (pc := 48) d_Mod_oneTick_48 (by decide) ?_
      refine rx_idivv C.1 (v := 1) (pc := 49) d_Mod_oneTick_49 (by decide) (by decide) ?_
      refine rx_iload_n C.1 (pc := 50) d_Mod_oneTick_50 rfl ?_
      refine rx_iconst C.1 (v := 2) (pc := 51) d_Mod_oneTick_51 (by decide) ?_
      refine rx_idivv C.1 (v := 1) (pc := 52) d_Mod_oneTick_52 (by decide) (by decide) ?_
      refine rx_iconst C.1 (v := 0) (pc := 53) d_Mod_oneTick_53 (by decide) ?_
      refine rx_iconst C.1 (v := 0) (pc := 54) d_Mod_oneTick_54 (by decide) ?_
      refine rx_iconst C.1 (v := 0) (pc := 55) d_Mod_oneTick_55 (by decide) ?_
      refine rx_iconst C.1 (v := 0) (pc := 56) d_Mod_oneTick_56 (by decide) ?_
      refine q_Mod_109 D b ca C (pc := 57) d_Mod_oneTick_57 (c_Mod_send l D b ca ) ⟨Nat.le_of_ble_eq_true rfl, Nat.le_of_ble_eq_true rfl⟩ ⟨Nat.zero_le _, Nat.zero_le _⟩ (Nat.le_of_ble_eq_true rfl) ?_
      refine rx_iinc C.1 (v := 4) (pc := 60) d_Mod_oneTick_60 rfl (by decide) (by decide) ?_
      refine rx_goto C.1 (pc := 63) d_Mod_oneTick_63 (tgt := 12) rfl ?_
      refine rx_loc C.1 (rx_sub_all (lo' := [(1, .int 4), (0, .ref (rg_A (rx_fin D b ca) 71))]) ⟨rfl, rfl, trivial⟩) ?_
      unfold st_adv3 at kb
      first | (rw [if_neg h1] at kb; exact kb) | (rw [if_pos h1, if_neg h2] at kb; exact kb) | (rw [if_pos h1, if_pos h2] at kb; exact kb)
def st_adv4 (σ : rMem) : rMem := if σ 71 3 - σ 71 3 / 4 * 4 = 0 then (if σ 74 (Int32.toNatClampNeg 0) = 2 then sp_Mod_send σ 1 5 0 2 2 0 0 0 0 else σ) else σ
set_option maxHeartbeats 4000000 in
set_option maxRecDepth 100000 in
theorem it_Mod_adv4 (l : Launch) (D : va_G) (b : Nat) (ca : Nat → ClassId) {p : Program} {e : Env} {s : State} {mm : MethodId} {args : Array Value} {below : List Frame} {meth : Method} {c : Code} {H0 : Heap} {Q : State → Prop} {σ : rMem}  (C : rx_Cw p s mm args meth c R_Mod b_Mod_oneTick 4 none (rx_fin D b ca)) 
    (kb : rx_X p l e (rx_rm 4) s mm args below meth c (rg_O (rx_fin D b ca)) H0 0 0 Q 4 (rx_m (rx_fin D b ca) (st_adv4 σ)) 12 [(1, .int 5), (0, .ref (rg_A (rx_fin D b ca) 71))] []) : rx_X p l e (rx_rm 4) s mm args below meth c (rg_O (rx_fin D b ca)) H0 0 0 Q 4 (rx_m (rx_fin D b ca) σ) 12 [(1, .int 4), (0, .ref (rg_A (rx_fin D b ca) 71))] [] := by
  refine rx_iload_n C.1 (pc := 12) d_Mod_oneTick_12 rfl ?_
  refine rx_bipush C.1 (v := 8) (pc := 13) d_Mod_oneTick_13 (by decide) ?_
  refine rx_icmp_ge C.1 (pc := 15) d_Mod_oneTick_15 (tgt := 66) rfl (fun h9 => absurd h9 (by decide)) (fun _ => ?_)
  refine rx_aload_n C.1 (pc := 18) d_Mod_oneTick_18 rfl ?_
  refine g_Mod_113 D b ca C (pc := 19) d_Mod_oneTick_19 ?_
  refine rx_iconst C.1 (v := 4) (pc := 22) d_Mod_oneTick_22 (by decide) ?_
  refine rx_irem C.1 (pc := 23) d_Mod_oneTick_23 (by decide) ?_
  refine rx_if_ne C.1 (pc := 24) d_Mod_oneTick_24 (tgt := 60) rfl (fun h1 => ?_) (fun h1 => ?_)
  ·
    refine rx_iinc C.1 (v := 5) (pc := 60) d_Mod_oneTick_60 rfl (by decide) (by decide) ?_
    refine rx_goto C.1 (pc := 63) d_Mod_oneTick_63 (tgt := 12) rfl ?_
    refine rx_loc C.1 (rx_sub_all (lo' := [(1, .int 5), (0, .ref (rg_A (rx_fin D b ca) 71))]) ⟨rfl, rfl, trivial⟩) ?_
    unfold st_adv4 at kb
    first | (rw [if_neg h1] at kb; exact kb) | (rw [if_pos h1, if_neg h2] at kb; exact kb) | (rw [if_pos h1, if_pos h2] at kb; exact kb)
  ·
    refine rx_aload_n C.1 (pc := 27) d_Mod_oneTick_27 rfl ?_
    refine g_Mod_16 D b ca C (pc := 28) d_Mod_oneTick_28 ?_
    refine rx_iload_n C.1 (pc := 31) d_Mod_oneTick_31 rfl ?_
    refine rx_iconst C.1 (v := 2) (pc := 32) d_Mod_oneTick_32 (by decide) ?_
    refine rx_iremv C.1 (v := 0) (pc := 33) d_Mod_oneTick_33 (by decide) (by decide) ?_
    refine rx_iald C (i := 74) (n := 2) (pc := 34) d_Mod_oneTick_34 (rx_lt (by decide)) rfl (by first | assumption | exact rx_in2 (by assumption) | exact rx_v02 | exact rx_v12 | exact vp_in_iff.mpr (by decide) | exact fa_in (by assumption) (by assumption) | exact fa_in (by assumption) rx_iM0 | exact fa_in (by assumption) rx_iM1) ?_
    refine rx_iload_n C.1 (pc := 35) d_Mod_oneTick_35 rfl ?_
    refine rx_iconst C.1 (v := 2) (pc := 36) d_Mod_oneTick_36 (by decide) ?_
    refine rx_idivv C.1 (v := 2) (pc := 37) d_Mod_oneTick_37 (by decide) (by decide) ?_
    refine rx_icmp_ne C.1 (pc := 38) d_Mod_oneTick_38 (tgt := 60) rfl (fun h2 => ?_) (fun h2 => ?_)
    ·
      refine rx_iinc C.1 (v := 5) (pc := 60) d_Mod_oneTick_60 rfl (by decide) (by decide) ?_
      refine rx_goto C.1 (pc := 63) d_Mod_oneTick_63 (tgt := 12) rfl ?_
      refine rx_loc C.1 (rx_sub_all (lo' := [(1, .int 5), (0, .ref (rg_A (rx_fin D b ca) 71))]) ⟨rfl, rfl, trivial⟩) ?_
      unfold st_adv4 at kb
      first | (rw [if_neg h1] at kb; exact kb) | (rw [if_pos h1, if_neg h2] at kb; exact kb) | (rw [if_pos h1, if_pos h2] at kb; exact kb)
    ·
      refine rx_aload_n C.1 (pc := 41) d_Mod_oneTick_41 rfl ?_
      refine rx_iconst C.1 (v := 1) (pc := 42) d_Mod_oneTick_42 (by decide) ?_
      refine rx_iconst C.1 (v := 5) (pc := 43) d_Mod_oneTick_43 (by decide) ?_
      refine rx_iload_n C.1 (pc := 44) d_Mod_oneTick_44 rfl ?_
      refine rx_iconst C.1 (v := 2) (pc := 45) d_Mod_oneTick_45 (by decide) ?_
      refine rx_iremv C.1 (v := 0) (pc := 46) d_Mod_oneTick_46 (by decide) (by decide) ?_
      refine rx_iload_n C.1 (pc := 47) d_Mod_oneTick_47 rfl ?_
      refine rx_iconst C.1 (v := 2) (pc := 48) d_Mod_oneTick_48 (by decide) ?_
      refine rx_idivv C.1 (v := 2) (pc := 49) d_Mod_oneTick_49 (by decide) (by decide) ?_
      refine rx_iload_n C.1 (pc := 50) d_Mod_oneTick_50 rfl ?_
      refine rx_iconst C.1 (v := 2) (pc := 51) d_Mod_oneTick_51 (by decide) ?_
      refine rx_idivv C.1 (v := 2) (pc := 52) d_Mod_oneTick_52 (by decide) (by decide) ?_
      refine rx_iconst C.1 (v := 0) (pc := 53) d_Mod_oneTick_53 (by decide) ?_
      refine rx_iconst C.1 (v := 0) (pc := 54) d_Mod_oneTick_54 (by decide) ?_
      refine rx_iconst C.1 (v := 0) (pc := 55) d_Mod_oneTick_55 (by decide) ?_
      refine rx_iconst C.1 (v := 0) (pc := 56) d_Mod_oneTick_56 (by decide) ?_
      refine q_Mod_109 D b ca C (pc := 57) d_Mod_oneTick_57 (c_Mod_send l D b ca ) ⟨Nat.le_of_ble_eq_true rfl, Nat.le_of_ble_eq_true rfl⟩ ⟨Nat.zero_le _, Nat.zero_le _⟩ (Nat.le_of_ble_eq_true rfl) ?_
      refine rx_iinc C.1 (v := 5) (pc := 60) d_Mod_oneTick_60 rfl (by decide) (by decide) ?_
      refine rx_goto C.1 (pc := 63) d_Mod_oneTick_63 (tgt := 12) rfl ?_
      refine rx_loc C.1 (rx_sub_all (lo' := [(1, .int 5), (0, .ref (rg_A (rx_fin D b ca) 71))]) ⟨rfl, rfl, trivial⟩) ?_
      unfold st_adv4 at kb
      first | (rw [if_neg h1] at kb; exact kb) | (rw [if_pos h1, if_neg h2] at kb; exact kb) | (rw [if_pos h1, if_pos h2] at kb; exact kb)
def st_adv5 (σ : rMem) : rMem := if σ 71 3 - σ 71 3 / 4 * 4 = 0 then (if σ 74 (Int32.toNatClampNeg 1) = 2 then sp_Mod_send σ 1 5 1 2 2 0 0 0 0 else σ) else σ
set_option maxHeartbeats 4000000 in
set_option maxRecDepth 100000 in
theorem it_Mod_adv5 (l : Launch) (D : va_G) (b : Nat) (ca : Nat → ClassId) {p : Program} {e : Env} {s : State} {mm : MethodId} {args : Array Value} {below : List Frame} {meth : Method} {c : Code} {H0 : Heap} {Q : State → Prop} {σ : rMem}  (C : rx_Cw p s mm args meth c R_Mod b_Mod_oneTick 4 none (rx_fin D b ca)) 
    (kb : rx_X p l e (rx_rm 4) s mm args below meth c (rg_O (rx_fin D b ca)) H0 0 0 Q 4 (rx_m (rx_fin D b ca) (st_adv5 σ)) 12 [(1, .int 6), (0, .ref (rg_A (rx_fin D b ca) 71))] []) : rx_X p l e (rx_rm 4) s mm args below meth c (rg_O (rx_fin D b ca)) H0 0 0 Q 4 (rx_m (rx_fin D b ca) σ) 12 [(1, .int 5), (0, .ref (rg_A (rx_fin D b ca) 71))] [] := by
  refine rx_iload_n C.1 (pc := 12) d_Mod_oneTick_12 rfl ?_
  refine rx_bipush C.1 (v := 8) (pc := 13) d_Mod_oneTick_13 (by decide) ?_
  refine rx_icmp_ge C.1 (pc := 15) d_Mod_oneTick_15 (tgt := 66) rfl (fun h9 => absurd h9 (by decide)) (fun _ => ?_)
  refine rx_aload_n C.1 (pc := 18) d_Mod_oneTick_18 rfl ?_
  refine g_Mod_113 D b ca C (pc := 19) d_Mod_oneTick_19 ?_
  refine rx_iconst C.1 (v := 4) (pc := 22) d_Mod_oneTick_22 (by decide) ?_
  refine rx_irem C.1 (pc := 23) d_Mod_oneTick_23 (by decide) ?_
  refine rx_if_ne C.1 (pc := 24) d_Mod_oneTick_24 (tgt := 60) rfl (fun h1 => ?_) (fun h1 => ?_)
  ·
    refine rx_iinc C.1 (v := 6) (pc := 60) d_Mod_oneTick_60 rfl (by decide) (by decide) ?_
    refine rx_goto C.1 (pc := 63) d_Mod_oneTick_63 (tgt := 12) rfl ?_
    refine rx_loc C.1 (rx_sub_all (lo' := [(1, .int 6), (0, .ref (rg_A (rx_fin D b ca) 71))]) ⟨rfl, rfl, trivial⟩) ?_
    unfold st_adv5 at kb
    first | (rw [if_neg h1] at kb; exact kb) | (rw [if_pos h1, if_neg h2] at kb; exact kb) | (rw [if_pos h1, if_pos h2] at kb; exact kb)
  ·
    refine rx_aload_n C.1 (pc := 27) d_Mod_oneTick_27 rfl ?_
    refine g_Mod_16 D b ca C (pc := 28) d_Mod_oneTick_28 ?_
    refine rx_iload_n C.1 (pc := 31) d_Mod_oneTick_31 rfl ?_
    refine rx_iconst C.1 (v := 2) (pc := 32) d_Mod_oneTick_32 (by decide) ?_
    refine rx_iremv C.1 (v := 1) (pc := 33) d_Mod_oneTick_33 (by decide) (by decide) ?_
    refine rx_iald C (i := 74) (n := 2) (pc := 34) d_Mod_oneTick_34 (rx_lt (by decide)) rfl (by first | assumption | exact rx_in2 (by assumption) | exact rx_v02 | exact rx_v12 | exact vp_in_iff.mpr (by decide) | exact fa_in (by assumption) (by assumption) | exact fa_in (by assumption) rx_iM0 | exact fa_in (by assumption) rx_iM1) ?_
    refine rx_iload_n C.1 (pc := 35) d_Mod_oneTick_35 rfl ?_
    refine rx_iconst C.1 (v := 2) (pc := 36) d_Mod_oneTick_36 (by decide) ?_
    refine rx_idivv C.1 (v := 2) (pc := 37) d_Mod_oneTick_37 (by decide) (by decide) ?_
    refine rx_icmp_ne C.1 (pc := 38) d_Mod_oneTick_38 (tgt := 60) rfl (fun h2 => ?_) (fun h2 => ?_)
    ·
      refine rx_iinc C.1 (v := 6) (pc := 60) d_Mod_oneTick_60 rfl (by decide) (by decide) ?_
      refine rx_goto C.1 (pc := 63) d_Mod_oneTick_63 (tgt := 12) rfl ?_
      refine rx_loc C.1 (rx_sub_all (lo' := [(1, .int 6), (0, .ref (rg_A (rx_fin D b ca) 71))]) ⟨rfl, rfl, trivial⟩) ?_
      unfold st_adv5 at kb
      first | (rw [if_neg h1] at kb; exact kb) | (rw [if_pos h1, if_neg h2] at kb; exact kb) | (rw [if_pos h1, if_pos h2] at kb; exact kb)
    ·
      refine rx_aload_n C.1 (pc := 41) d_Mod_oneTick_41 rfl ?_
      refine rx_iconst C.1 (v := 1) (pc := 42) d_Mod_oneTick_42 (by decide) ?_
      refine rx_iconst C.1 (v := 5) (pc := 43) d_Mod_oneTick_43 (by decide) ?_
      refine rx_iload_n C.1 (pc := 44) d_Mod_oneTick_44 rfl ?_
      refine rx_iconst C.1 (v := 2) (pc := 45) d_Mod_oneTick_45 (by decide) ?_
      refine rx_iremv C.1 (v := 1) (pc := 46) d_Mod_oneTick_46 (by decide) (by decide) ?_
      refine rx_iload_n C.1 (pc := 47) d_Mod_oneTick_47 rfl ?_
      refine rx_iconst C.1 (v := 2) (pc := 48) d_Mod_oneTick_48 (by decide) ?_
      refine rx_idivv C.1 (v := 2) (pc := 49) d_Mod_oneTick_49 (by decide) (by decide) ?_
      refine rx_iload_n C.1 (pc := 50) d_Mod_oneTick_50 rfl ?_
      refine rx_iconst C.1 (v := 2) (pc := 51) d_Mod_oneTick_51 (by decide) ?_
      refine rx_idivv C.1 (v := 2) (pc := 52) d_Mod_oneTick_52 (by decide) (by decide) ?_
      refine rx_iconst C.1 (v := 0) (pc := 53) d_Mod_oneTick_53 (by decide) ?_
      refine rx_iconst C.1 (v := 0) (pc := 54) d_Mod_oneTick_54 (by decide) ?_
      refine rx_iconst C.1 (v := 0) (pc := 55) d_Mod_oneTick_55 (by decide) ?_
      refine rx_iconst C.1 (v := 0) (pc := 56) d_Mod_oneTick_56 (by decide) ?_
      refine q_Mod_109 D b ca C (pc := 57) d_Mod_oneTick_57 (c_Mod_send l D b ca ) ⟨Nat.le_of_ble_eq_true rfl, Nat.le_of_ble_eq_true rfl⟩ ⟨Nat.zero_le _, Nat.zero_le _⟩ (Nat.le_of_ble_eq_true rfl) ?_
      refine rx_iinc C.1 (v := 6) (pc := 60) d_Mod_oneTick_60 rfl (by decide) (by decide) ?_
      refine rx_goto C.1 (pc := 63) d_Mod_oneTick_63 (tgt := 12) rfl ?_
      refine rx_loc C.1 (rx_sub_all (lo' := [(1, .int 6), (0, .ref (rg_A (rx_fin D b ca) 71))]) ⟨rfl, rfl, trivial⟩) ?_
      unfold st_adv5 at kb
      first | (rw [if_neg h1] at kb; exact kb) | (rw [if_pos h1, if_neg h2] at kb; exact kb) | (rw [if_pos h1, if_pos h2] at kb; exact kb)
def st_adv6 (σ : rMem) : rMem := if σ 71 3 - σ 71 3 / 4 * 4 = 0 then (if σ 74 (Int32.toNatClampNeg 0) = 3 then sp_Mod_send σ 1 5 0 3 3 0 0 0 0 else σ) else σ
set_option maxHeartbeats 4000000 in
set_option maxRecDepth 100000 in
theorem it_Mod_adv6 (l : Launch) (D : va_G) (b : Nat) (ca : Nat → ClassId) {p : Program} {e : Env} {s : State} {mm : MethodId} {args : Array Value} {below : List Frame} {meth : Method} {c : Code} {H0 : Heap} {Q : State → Prop} {σ : rMem}  (C : rx_Cw p s mm args meth c R_Mod b_Mod_oneTick 4 none (rx_fin D b ca)) 
    (kb : rx_X p l e (rx_rm 4) s mm args below meth c (rg_O (rx_fin D b ca)) H0 0 0 Q 4 (rx_m (rx_fin D b ca) (st_adv6 σ)) 12 [(1, .int 7), (0, .ref (rg_A (rx_fin D b ca) 71))] []) : rx_X p l e (rx_rm 4) s mm args below meth c (rg_O (rx_fin D b ca)) H0 0 0 Q 4 (rx_m (rx_fin D b ca) σ) 12 [(1, .int 6), (0, .ref (rg_A (rx_fin D b ca) 71))] [] := by
  refine rx_iload_n C.1 (pc := 12) d_Mod_oneTick_12 rfl ?_
  refine rx_bipush C.1 (v := 8) (pc := 13) d_Mod_oneTick_13 (by decide) ?_
  refine rx_icmp_ge C.1 (pc := 15) d_Mod_oneTick_15 (tgt := 66) rfl (fun h9 => absurd h9 (by decide)) (fun _ => ?_)
  refine rx_aload_n C.1 (pc := 18) d_Mod_oneTick_18 rfl ?_
  refine g_Mod_113 D b ca C (pc := 19) d_Mod_oneTick_19 ?_
  refine rx_iconst C.1 (v := 4) (pc := 22) d_Mod_oneTick_22 (by decide) ?_
  refine rx_irem C.1 (pc := 23) d_Mod_oneTick_23 (by decide) ?_
  refine rx_if_ne C.1 (pc := 24) d_Mod_oneTick_24 (tgt := 60) rfl (fun h1 => ?_) (fun h1 => ?_)
  ·
    refine rx_iinc C.1 (v := 7) (pc := 60) d_Mod_oneTick_60 rfl (by decide) (by decide) ?_
    refine rx_goto C.1 (pc := 63) d_Mod_oneTick_63 (tgt := 12) rfl ?_
    refine rx_loc C.1 (rx_sub_all (lo' := [(1, .int 7), (0, .ref (rg_A (rx_fin D b ca) 71))]) ⟨rfl, rfl, trivial⟩) ?_
    unfold st_adv6 at kb
    first | (rw [if_neg h1] at kb; exact kb) | (rw [if_pos h1, if_neg h2] at kb; exact kb) | (rw [if_pos h1, if_pos h2] at kb; exact kb)
  ·
    refine rx_aload_n C.1 (pc := 27) d_Mod_oneTick_27 rfl ?_
    refine g_Mod_16 D b ca C (pc := 28) d_Mod_oneTick_28 ?_
    refine rx_iload_n C.1 (pc := 31) d_Mod_oneTick_31 rfl ?_
    refine rx_iconst C.1 (v := 2) (pc := 32) d_Mod_oneTick_32 (by decide) ?_
    refine rx_iremv C.1 (v := 0) (pc := 33) d_Mod_oneTick_33 (by decide) (by decide) ?_
    refine rx_iald C (i := 74) (n := 2) (pc := 34) d_Mod_oneTick_34 (rx_lt (by decide)) rfl (by first | assumption | exact rx_in2 (by assumption) | exact rx_v02 | exact rx_v12 | exact vp_in_iff.mpr (by decide) | exact fa_in (by assumption) (by assumption) | exact fa_in (by assumption) rx_iM0 | exact fa_in (by assumption) rx_iM1) ?_
    refine rx_iload_n C.1 (pc := 35) d_Mod_oneTick_35 rfl ?_
    refine rx_iconst C.1 (v := 2) (pc := 36) d_Mod_oneTick_36 (by decide) ?_
    refine rx_idivv C.1 (v := 3) (pc := 37) d_Mod_oneTick_37 (by decide) (by decide) ?_
    refine rx_icmp_ne C.1 (pc := 38) d_Mod_oneTick_38 (tgt := 60) rfl (fun h2 => ?_) (fun h2 => ?_)
    ·
      refine rx_iinc C.1 (v := 7) (pc := 60) d_Mod_oneTick_60 rfl (by decide) (by decide) ?_
      refine rx_goto C.1 (pc := 63) d_Mod_oneTick_63 (tgt := 12) rfl ?_
      refine rx_loc C.1 (rx_sub_all (lo' := [(1, .int 7), (0, .ref (rg_A (rx_fin D b ca) 71))]) ⟨rfl, rfl, trivial⟩) ?_
      unfold st_adv6 at kb
      first | (rw [if_neg h1] at kb; exact kb) | (rw [if_pos h1, if_neg h2] at kb; exact kb) | (rw [if_pos h1, if_pos h2] at kb; exact kb)
    ·
      refine rx_aload_n C.1 (pc := 41) d_Mod_oneTick_41 rfl ?_
      refine rx_iconst C.1 (v := 1) (pc := 42) d_Mod_oneTick_42 (by decide) ?_
      refine rx_iconst C.1 (v := 5) (pc := 43) d_Mod_oneTick_43 (by decide) ?_
      refine rx_iload_n C.1 (pc := 44) d_Mod_oneTick_44 rfl ?_
      refine rx_iconst C.1 (v := 2) (pc := 45) d_Mod_oneTick_45 (by decide) ?_
      refine rx_iremv C.1 (v := 0) (pc := 46) d_Mod_oneTick_46 (by decide) (by decide) ?_
      refine rx_iload_n C.1 (pc := 47) d_Mod_oneTick_47 rfl ?_
      refine rx_iconst C.1 (v := 2) (pc := 48) d_Mod_oneTick_48 (by decide) ?_
      refine rx_idivv C.1 (v := 3) (pc := 49) d_Mod_oneTick_49 (by decide) (by decide) ?_
      refine rx_iload_n C.1 (pc := 50) d_Mod_oneTick_50 rfl ?_
      refine rx_iconst C.1 (v := 2) (pc := 51) d_Mod_oneTick_51 (by decide) ?_
      refine rx_idivv C.1 (v := 3) (pc := 52) d_Mod_oneTick_52 (by decide) (by decide) ?_
      refine rx_iconst C.1 (v := 0) (pc := 53) d_Mod_oneTick_53 (by decide) ?_
      refine rx_iconst C.1 (v := 0) (pc := 54) d_Mod_oneTick_54 (by decide) ?_
      refine rx_iconst C.1 (v := 0) (pc := 55) d_Mod_oneTick_55 (by decide) ?_
      refine rx_iconst C.1 (v := 0) (pc := 56) d_Mod_oneTick_56 (by decide) ?_
      refine q_Mod_109 D b ca C (pc := 57) d_Mod_oneTick_57 (c_Mod_send l D b ca ) ⟨Nat.le_of_ble_eq_true rfl, Nat.le_of_ble_eq_true rfl⟩ ⟨Nat.zero_le _, Nat.zero_le _⟩ (Nat.le_of_ble_eq_true rfl) ?_
      refine rx_iinc C.1 (v := 7) (pc := 60) d_Mod_oneTick_60 rfl (by decide) (by decide) ?_
      refine rx_goto C.1 (pc := 63) d_Mod_oneTick_63 (tgt := 12) rfl ?_
      refine rx_loc C.1 (rx_sub_all (lo' := [(1, .int 7), (0, .ref (rg_A (rx_fin D b ca) 71))]) ⟨rfl, rfl, trivial⟩) ?_
      unfold st_adv6 at kb
      first | (rw [if_neg h1] at kb; exact kb) | (rw [if_pos h1, if_neg h2] at kb; exact kb) | (rw [if_pos h1, if_pos h2] at kb; exact kb)
def st_adv7 (σ : rMem) : rMem := if σ 71 3 - σ 71 3 / 4 * 4 = 0 then (if σ 74 (Int32.toNatClampNeg 1) = 3 then sp_Mod_send σ 1 5 1 3 3 0 0 0 0 else σ) else σ
set_option maxHeartbeats 4000000 in
set_option maxRecDepth 100000 in
theorem it_Mod_adv7 (l : Launch) (D : va_G) (b : Nat) (ca : Nat → ClassId) {p : Program} {e : Env} {s : State} {mm : MethodId} {args : Array Value} {below : List Frame} {meth : Method} {c : Code} {H0 : Heap} {Q : State → Prop} {σ : rMem}  (C : rx_Cw p s mm args meth c R_Mod b_Mod_oneTick 4 none (rx_fin D b ca)) 
    (kb : rx_X p l e (rx_rm 4) s mm args below meth c (rg_O (rx_fin D b ca)) H0 0 0 Q 4 (rx_m (rx_fin D b ca) (st_adv7 σ)) 12 [(1, .int 8), (0, .ref (rg_A (rx_fin D b ca) 71))] []) : rx_X p l e (rx_rm 4) s mm args below meth c (rg_O (rx_fin D b ca)) H0 0 0 Q 4 (rx_m (rx_fin D b ca) σ) 12 [(1, .int 7), (0, .ref (rg_A (rx_fin D b ca) 71))] [] := by
  refine rx_iload_n C.1 (pc := 12) d_Mod_oneTick_12 rfl ?_
  refine rx_bipush C.1 (v := 8) (pc := 13) d_Mod_oneTick_13 (by decide) ?_
  refine rx_icmp_ge C.1 (pc := 15) d_Mod_oneTick_15 (tgt := 66) rfl (fun h9 => absurd h9 (by decide)) (fun _ => ?_)
  refine rx_aload_n C.1 (pc := 18) d_Mod_oneTick_18 rfl ?_
  refine g_Mod_113 D b ca C (pc := 19) d_Mod_oneTick_19 ?_
  refine rx_iconst C.1 (v := 4) (pc := 22) d_Mod_oneTick_22 (by decide) ?_
  refine rx_irem C.1 (pc := 23) d_Mod_oneTick_23 (by decide) ?_
  refine rx_if_ne C.1 (pc := 24) d_Mod_oneTick_24 (tgt := 60) rfl (fun h1 => ?_) (fun h1 => ?_)
  ·
    refine rx_iinc C.1 (v := 8) (pc := 60) d_Mod_oneTick_60 rfl (by decide) (by decide) ?_
    refine rx_goto C.1 (pc := 63) d_Mod_oneTick_63 (tgt := 12) rfl ?_
    refine rx_loc C.1 (rx_sub_all (lo' := [(1, .int 8), (0, .ref (rg_A (rx_fin D b ca) 71))]) ⟨rfl, rfl, trivial⟩) ?_
    unfold st_adv7 at kb
    first | (rw [if_neg h1] at kb; exact kb) | (rw [if_pos h1, if_neg h2] at kb; exact kb) | (rw [if_pos h1, if_pos h2] at kb; exact kb)
  ·
    refine rx_aload_n C.1 (pc := 27) d_Mod_oneTick_27 rfl ?_
    refine g_Mod_16 D b ca C (pc := 28) d_Mod_oneTick_28 ?_
    refine rx_iload_n C.1 (pc := 31) d_Mod_oneTick_31 rfl ?_
    refine rx_iconst C.1 (v := 2) (pc := 32) d_Mod_oneTick_32 (by decide) ?_
    refine rx_iremv C.1 (v := 1) (pc := 33) d_Mod_oneTick_33 (by decide) (by decide) ?_
    refine rx_iald C (i := 74) (n := 2) (pc := 34) d_Mod_oneTick_34 (rx_lt (by decide)) rfl (by first | assumption | exact rx_in2 (by assumption) | exact rx_v02 | exact rx_v12 | exact vp_in_iff.mpr (by decide) | exact fa_in (by assumption) (by assumption) | exact fa_in (by assumption) rx_iM0 | exact fa_in (by assumption) rx_iM1) ?_
    refine rx_iload_n C.1 (pc := 35) d_Mod_oneTick_35 rfl ?_
    refine rx_iconst C.1 (v := 2) (pc := 36) d_Mod_oneTick_36 (by decide) ?_
    refine rx_idivv C.1 (v := 3) (pc := 37) d_Mod_oneTick_37 (by decide) (by decide) ?_
    refine rx_icmp_ne C.1 (pc := 38) d_Mod_oneTick_38 (tgt := 60) rfl (fun h2 => ?_) (fun h2 => ?_)
    ·
      refine rx_iinc C.1 (v := 8) (pc := 60) d_Mod_oneTick_60 rfl (by decide) (by decide) ?_
      refine rx_goto C.1 (pc := 63) d_Mod_oneTick_63 (tgt := 12) rfl ?_
      refine rx_loc C.1 (rx_sub_all (lo' := [(1, .int 8), (0, .ref (rg_A (rx_fin D b ca) 71))]) ⟨rfl, rfl, trivial⟩) ?_
      unfold st_adv7 at kb
      first | (rw [if_neg h1] at kb; exact kb) | (rw [if_pos h1, if_neg h2] at kb; exact kb) | (rw [if_pos h1, if_pos h2] at kb; exact kb)
    ·
      refine rx_aload_n C.1 (pc := 41) d_Mod_oneTick_41 rfl ?_
      refine rx_iconst C.1 (v := 1) (pc := 42) d_Mod_oneTick_42 (by decide) ?_
      refine rx_iconst C.1 (v := 5) (pc := 43) d_Mod_oneTick_43 (by decide) ?_
      refine rx_iload_n C.1 (pc := 44) d_Mod_oneTick_44 rfl ?_
      refine rx_iconst C.1 (v := 2) (pc := 45) d_Mod_oneTick_45 (by decide) ?_
      refine rx_iremv C.1 (v := 1) (pc := 46) d_Mod_oneTick_46 (by decide) (by decide) ?_
      refine rx_iload_n C.1 (pc := 47) d_Mod_oneTick_47 rfl ?_
      refine rx_iconst C.1 (v := 2) (pc := 48) d_Mod_oneTick_48 (by decide) ?_
      refine rx_idivv C.1 (v := 3) (pc := 49) d_Mod_oneTick_49 (by decide) (by decide) ?_
      refine rx_iload_n C.1 (pc := 50) d_Mod_oneTick_50 rfl ?_
      refine rx_iconst C.1 (v := 2) (pc := 51) d_Mod_oneTick_51 (by decide) ?_
      refine rx_idivv C.1 (v := 3) (pc := 52) d_Mod_oneTick_52 (by decide) (by decide) ?_
      refine rx_iconst C.1 (v := 0) (pc := 53) d_Mod_oneTick_53 (by decide) ?_
      refine rx_iconst C.1 (v := 0) (pc := 54) d_Mod_oneTick_54 (by decide) ?_
      refine rx_iconst C.1 (v := 0) (pc := 55) d_Mod_oneTick_55 (by decide) ?_
      refine rx_iconst C.1 (v := 0) (pc := 56) d_Mod_oneTick_56 (by decide) ?_
      refine q_Mod_109 D b ca C (pc := 57) d_Mod_oneTick_57 (c_Mod_send l D b ca ) ⟨Nat.le_of_ble_eq_true rfl, Nat.le_of_ble_eq_true rfl⟩ ⟨Nat.zero_le _, Nat.zero_le _⟩ (Nat.le_of_ble_eq_true rfl) ?_
      refine rx_iinc C.1 (v := 8) (pc := 60) d_Mod_oneTick_60 rfl (by decide) (by decide) ?_
      refine rx_goto C.1 (pc := 63) d_Mod_oneTick_63 (tgt := 12) rfl ?_
      refine rx_loc C.1 (rx_sub_all (lo' := [(1, .int 8), (0, .ref (rg_A (rx_fin D b ca) 71))]) ⟨rfl, rfl, trivial⟩) ?_
      unfold st_adv7 at kb
      first | (rw [if_neg h1] at kb; exact kb) | (rw [if_pos h1, if_neg h2] at kb; exact kb) | (rw [if_pos h1, if_pos h2] at kb; exact kb)

set_option maxHeartbeats 4000000 in
set_option maxRecDepth 100000 in
theorem it_Mod_rs (l : Launch) (D : va_G) (b : Nat) (ca : Nat → ClassId) {p : Program} {e : Env} {s : State} {mm : MethodId} {args : Array Value} {below : List Frame} {meth : Method} {c : Code} {H0 : Heap} {Q : State → Prop} {σ : rMem} {m k lt : Int32} (C : rx_Cw p s mm args meth c R_Mod b_Mod_oneTick 4 none (rx_fin D b ca)) (hm : rx_iM m)
    (kx : (σ 93 m.toNatClampNeg < k ∨ lt = 0) → rx_X p l e (rx_rm 4) s mm args below meth c (rg_O (rx_fin D b ca)) H0 0 0 Q 4 (rx_m (rx_fin D b ca) σ) 161 [(3, .int k), (2, .int lt), (1, .int m), (0, .ref (rg_A (rx_fin D b ca) 71))] []) (kb : ¬ σ 93 m.toNatClampNeg < k → ¬ lt = 0 → rx_X p l e (rx_rm 4) s mm args below meth c (rg_O (rx_fin D b ca)) H0 0 0 Q 4 (rx_m (rx_fin D b ca) (sp_Mod_send σ 4 0 m 0 k 0 0 0 0)) 128 [(3, .int (k + 1)), (2, .int lt), (1, .int m), (0, .ref (rg_A (rx_fin D b ca) 71))] []) : rx_X p l e (rx_rm 4) s mm args below meth c (rg_O (rx_fin D b ca)) H0 0 0 Q 4 (rx_m (rx_fin D b ca) σ) 128 [(3, .int k), (2, .int lt), (1, .int m), (0, .ref (rg_A (rx_fin D b ca) 71))] [] := by
  refine rx_iload_n C.1 (pc := 128) d_Mod_oneTick_128 rfl ?_
  refine rx_aload_n C.1 (pc := 129) d_Mod_oneTick_129 rfl ?_
  refine g_Mod_73 D b ca C (pc := 130) d_Mod_oneTick_130 ?_
  refine rx_iload_n C.1 (pc := 133) d_Mod_oneTick_133 rfl ?_
  refine rx_iald C (i := 93) (n := 2) (pc := 134) d_Mod_oneTick_134 (rx_lt (by decide)) rfl (by first | assumption | exact rx_in2 (by assumption) | exact rx_v02 | exact rx_v12 | exact vp_in_iff.mpr (by decide) | exact fa_in (by assumption) (by assumption) | exact fa_in (by assumption) rx_iM0 | exact fa_in (by assumption) rx_iM1) ?_
  refine rx_icmp_gt C.1 (pc := 135) d_Mod_oneTick_135 (tgt := 161) rfl (fun h1 => ?_) (fun h1 => ?_)
  ·
    first | exact kx (Or.inl h1) | exact kx (Or.inr h2)
  ·
    refine rx_iload_n C.1 (pc := 138) d_Mod_oneTick_138 rfl ?_
    refine rx_if_eq C.1 (pc := 139) d_Mod_oneTick_139 (tgt := 161) rfl (fun h2 => ?_) (fun h2 => ?_)
    ·
      first | exact kx (Or.inl h1) | exact kx (Or.inr h2)
    ·
      refine rx_aload_n C.1 (pc := 142) d_Mod_oneTick_142 rfl ?_
      refine rx_iconst C.1 (v := 4) (pc := 143) d_Mod_oneTick_143 (by decide) ?_
      refine rx_iconst C.1 (v := 0) (pc := 144) d_Mod_oneTick_144 (by decide) ?_
      refine rx_iload_n C.1 (pc := 145) d_Mod_oneTick_145 rfl ?_
      refine rx_iconst C.1 (v := 0) (pc := 146) d_Mod_oneTick_146 (by decide) ?_
      refine rx_iload_n C.1 (pc := 147) d_Mod_oneTick_147 rfl ?_
      refine rx_iconst C.1 (v := 0) (pc := 148) d_Mod_oneTick_148 (by decide) ?_
      refine rx_iconst C.1 (v := 0) (pc := 149) d_Mod_oneTick_149 (by decide) ?_
      refine rx_iconst C.1 (v := 0) (pc := 150) d_Mod_oneTick_150 (by decide) ?_
      refine rx_iconst C.1 (v := 0) (pc := 151) d_Mod_oneTick_151 (by decide) ?_
      refine q_Mod_109 D b ca C (pc := 152) d_Mod_oneTick_152 (c_Mod_send l D b ca ) ⟨Nat.le_of_ble_eq_true rfl, Nat.le_of_ble_eq_true rfl⟩ ⟨Nat.zero_le _, Nat.zero_le _⟩ (Nat.le_of_ble_eq_true rfl) ?_
      refine rx_iinc C.1 (v := k + 1) (pc := 155) d_Mod_oneTick_155 rfl rfl (by decide) ?_
      refine rx_goto C.1 (pc := 158) d_Mod_oneTick_158 (tgt := 128) rfl ?_
      refine rx_loc C.1 (rx_sub_all (lo' := [(3, .int (k + 1)), (2, .int lt), (1, .int m), (0, .ref (rg_A (rx_fin D b ca) 71))]) ⟨rfl, rfl, rfl, rfl, trivial⟩) ?_
      exact kb h1 h2
