set_option maxHeartbeats 4000000 in
set_option maxRecDepth 100000 in
theorem it_Net_tick (l : Launch) (D : va_G) (b : Nat) (ca : Nat → ClassId) {p : Program} {e : Env} {s : State} {mm : MethodId} {args : Array Value} {below : List Frame} {meth : Method} {c : Code} {H0 : Heap} {Q : State → Prop} {σ : rMem} {n k : Int32} (C : rx_Cw p s mm args meth c R_Net b_Net_tick 3 (some .boolean) (rx_fin D b ca)) 
    (kx : n ≤ k → rx_X p l e (rx_rm 6) s mm args below meth c (rg_O (rx_fin D b ca)) H0 0 0 Q 3 (rx_m (rx_fin D b ca) σ) 29 [(2, .int k), (0, .ref (rg_A (rx_fin D b ca) 0)), (1, .int n)] []) (kb : ¬ n ≤ k → rx_X p l e (rx_rm 6) s mm args below meth c (rg_O (rx_fin D b ca)) H0 0 0 Q 3 (rx_m (rx_fin D b ca) (sp_Net_passOneTick σ)) 14 [(2, .int (k + 1)), (0, .ref (rg_A (rx_fin D b ca) 0)), (1, .int n)] []) : rx_X p l e (rx_rm 6) s mm args below meth c (rg_O (rx_fin D b ca)) H0 0 0 Q 3 (rx_m (rx_fin D b ca) σ) 14 [(2, .int k), (0, .ref (rg_A (rx_fin D b ca) 0)), (1, .int n)] [] := by
  refine rx_iload_n C.1 (pc := 14) d_Net_tick_14 rfl ?_
  refine rx_iload_n C.1 (pc := 15) d_Net_tick_15 rfl ?_
  refine rx_icmp_ge C.1 (pc := 16) d_Net_tick_16 (tgt := 29) rfl (fun h1 => ?_) (fun h1 => ?_)
  ·
    exact kx h1
  ·
    refine rx_aload_n C.1 (pc := 19) d_Net_tick_19 rfl ?_
    refine q_Net_78 D b ca C (pc := 20) d_Net_tick_20 (c_Net_passOneTick l D b ca ) ⟨Nat.le_of_ble_eq_true rfl, Nat.le_of_ble_eq_true rfl⟩ ⟨Nat.zero_le _, Nat.zero_le _⟩ (Nat.le_of_ble_eq_true rfl) ?_
    refine rx_iinc C.1 (v := k + 1) (pc := 23) d_Net_tick_23 rfl rfl (by decide) ?_
    refine rx_goto C.1 (pc := 26) d_Net_tick_26 (tgt := 14) rfl ?_
    refine rx_loc C.1 (rx_sub_all (lo' := [(2, .int (k + 1)), (0, .ref (rg_A (rx_fin D b ca) 0)), (1, .int n)]) ⟨rfl, rfl, rfl, trivial⟩) ?_
    exact kb h1
theorem tk_pos {n : Int32} (h : ¬ rv_Net_isWithin n 1 20 = 0) : 1 ≤ n.toInt ∧ n.toInt ≤ 20 := by
  unfold rv_Net_isWithin at h
  have e20 : (20 : Int32).toInt = 20 := rfl
  by_cases h1 : n < 1
  · rw [if_pos h1] at h
    exact absurd rfl h
  · rw [if_neg h1] at h
    by_cases h2 : 20 < n
    · rw [if_pos h2] at h
      exact absurd rfl h
    · rw [rx_ltI] at h1 h2
      rw [rx_I1] at h1
      rw [e20] at h2
      exact ⟨by omega, by omega⟩
def it_n (f : rMem → rMem) : Nat → rMem → rMem
  | 0, σ => σ
  | n + 1, σ => it_n f n (f σ)
theorem lp_Net_tick1 (l : Launch) (D : va_G) (b : Nat) (ca : Nat → ClassId) {p : Program} {e : Env} {s : State} {mm : MethodId} {args : Array Value} {below : List Frame} {meth : Method} {c : Code} {H0 : Heap} {Q : State → Prop} {n : Int32} (C : rx_Cw p s mm args meth c R_Net b_Net_tick 3 (some .boolean) (rx_fin D b ca)) :
    ∀ (j : Nat) (σ : rMem) (k : Int32), n.toInt - k.toInt = j →
      (∀ k' : Int32, rx_X p l e (rx_rm 6) s mm args below meth c (rg_O (rx_fin D b ca)) H0 0 0 Q 3 (rx_m (rx_fin D b ca) (it_n sp_Net_passOneTick j σ)) 29 [(2, .int k'), (0, .ref (rg_A (rx_fin D b ca) 0)), (1, .int n)] []) →
      rx_X p l e (rx_rm 6) s mm args below meth c (rg_O (rx_fin D b ca)) H0 0 0 Q 3 (rx_m (rx_fin D b ca) σ) 14 [(2, .int k), (0, .ref (rg_A (rx_fin D b ca) 0)), (1, .int n)] [] := by
  intro j
  induction j with
  | zero =>
    intro σ k hn kx
    exact it_Net_tick l D b ca C (fun h => kx k) (fun h => absurd (rx_leI.mpr (by omega)) h)
  | succ j ih =>
    intro σ k hn kx
    have h1 := rx_hi n
    have h2 := rx_lo k
    refine it_Net_tick l D b ca C (fun h => absurd (rx_leI.mp h) (by omega)) (fun h => ih _ _ ?_ (fun k' => kx k'))
    rw [rx_addI (by rw [rx_I1]; omega) (by rw [rx_I1]; omega), rx_I1]
    omega
theorem lp_Net_tick (l : Launch) (D : va_G) (b : Nat) (ca : Nat → ClassId) {p : Program} {e : Env} {s : State} {mm : MethodId} {args : Array Value} {below : List Frame} {meth : Method} {c : Code} {H0 : Heap} {Q : State → Prop} {n : Int32} {σ : rMem} (C : rx_Cw p s mm args meth c R_Net b_Net_tick 3 (some .boolean) (rx_fin D b ca)) (hn : 1 ≤ n.toInt ∧ n.toInt ≤ 20)
    (kx : ∀ k' : Int32, rx_X p l e (rx_rm 6) s mm args below meth c (rg_O (rx_fin D b ca)) H0 0 0 Q 3 (rx_m (rx_fin D b ca) (it_n sp_Net_passOneTick n.toNatClampNeg σ)) 29 [(2, .int k'), (0, .ref (rg_A (rx_fin D b ca) 0)), (1, .int n)] []) :
    rx_X p l e (rx_rm 6) s mm args below meth c (rg_O (rx_fin D b ca)) H0 0 0 Q 3 (rx_m (rx_fin D b ca) σ) 14 [(2, .int 0), (0, .ref (rg_A (rx_fin D b ca) 0)), (1, .int n)] [] :=
  lp_Net_tick1 l D b ca C n.toNatClampNeg σ 0 (by have := rx_cn (x := n) (by omega); rw [rx_I0]; omega) kx
def sp_Net_tick (σ : rMem) (n : Int32) : rMem × Int32 := if (rv_Net_isWithin n 1 20) = 0 then (σ, 0) else (let m1 := it_n sp_Net_passOneTick n.toNatClampNeg σ; (m1, 1))
set_option maxHeartbeats 4000000 in
set_option maxRecDepth 100000 in
theorem c_Net_tick (l : Launch) (D : va_G) (b : Nat) (ca : Nat → ClassId) {σ : rMem} {n : Int32} : rx_C l (rx_fin D b ca) y_Net_tick b_Net_tick 3 (some .boolean) (rx_rm 6) [.ref (rg_A (rx_fin D b ca) 0), .int n] σ (some (.int (sp_Net_tick σ n).2)) (sp_Net_tick σ n).1 := by
  refine rx_of (lo := [(0, .ref (rg_A (rx_fin D b ca) 0)), (1, .int n)]) (by decide) (rx_fin_D D b ca) rfl (Nat.le_of_ble_eq_true rfl) rfl ?_
  intro p e s mm below meth c C
  refine rx_iload_n C.1 (pc := 0) d_Net_tick_0 rfl ?_
  refine rx_iconst C.1 (v := 1) (pc := 1) d_Net_tick_1 (by decide) ?_
  refine rx_bipush C.1 (v := 20) (pc := 2) d_Net_tick_2 (by decide) ?_
  refine q_Net_11 C.1 (pc := 4) d_Net_tick_4 (c_Net_isWithin l ) ⟨Nat.le_of_ble_eq_true rfl, Nat.le_of_ble_eq_true rfl⟩ ⟨Nat.zero_le _, Nat.zero_le _⟩ (Nat.le_of_ble_eq_true rfl) ?_
  refine rx_if_ne C.1 (pc := 7) d_Net_tick_7 (tgt := 12) rfl (fun h1 => ?_) (fun h1 => ?_)
  ·
    refine rx_iconst C.1 (v := 0) (pc := 12) d_Net_tick_12 (by decide) ?_
    refine rx_istore_n C.1 (pc := 13) d_Net_tick_13 (by decide) ?_
    refine rx_loc C.1 (rx_sub_all (lo' := [(2, .int 0), (0, .ref (rg_A (rx_fin D b ca) 0)), (1, .int n)]) ⟨rfl, rfl, rfl, trivial⟩) ?_
    refine lp_Net_tick l D b ca C (tk_pos h1) (fun k' => ?_)
    refine rx_iconst C.1 (v := 1) (pc := 29) d_Net_tick_29 (by decide) ?_
    exact rx_zret C (pc := 30) d_Net_tick_30 (Or.inr rfl) (by unfold sp_Net_tick; first | (simp only [if_neg h1]; done) | (simp only [if_neg h1]; rfl)) (by unfold sp_Net_tick; first | (simp only [if_neg h1]; done) | (simp only [if_neg h1]; rfl))
  ·
    refine rx_iconst C.1 (v := 0) (pc := 10) d_Net_tick_10 (by decide) ?_
    exact rx_zret C (pc := 11) d_Net_tick_11 (Or.inl rfl) (by unfold sp_Net_tick; first | (simp only [if_pos h1]; done) | (simp only [if_pos h1]; rfl)) (by unfold sp_Net_tick; first | (simp only [if_pos h1]; done) | (simp only [if_pos h1]; rfl))
