theorem w_Msg_init : Cond.code y_Msg_init b_Msg_init 1 none ∈ rx_W := rx_in t_32 rfl
theorem z_Msg_init : Cond.instanceMethod y_Msg_init ∈ rx_W := rx_in t_31 rfl
theorem w_Wire_init : Cond.code y_Wire_init b_Wire_init 2 none ∈ rx_W := rx_in t_25 rfl
theorem z_Wire_init : Cond.instanceMethod y_Wire_init ∈ rx_W := rx_in t_24 rfl
theorem w_Mob_init : Cond.code y_Mob_init b_Mob_init 4 none ∈ rx_W := rx_in t_115 rfl
theorem z_Mob_init : Cond.instanceMethod y_Mob_init ∈ rx_W := rx_in t_114 rfl
theorem w_Home_init : Cond.code y_Home_init b_Home_init 3 none ∈ rx_W := rx_in t_170 rfl
theorem z_Home_init : Cond.instanceMethod y_Home_init ∈ rx_W := rx_in t_169 rfl
theorem w_Fa_init : Cond.code y_Fa_init b_Fa_init 4 none ∈ rx_W := rx_in t_200 rfl
theorem z_Fa_init : Cond.instanceMethod y_Fa_init ∈ rx_W := rx_in t_199 rfl
theorem w_Corr_init : Cond.code y_Corr_init b_Corr_init 2 none ∈ rx_W := rx_in t_226 rfl
theorem z_Corr_init : Cond.instanceMethod y_Corr_init ∈ rx_W := rx_in t_225 rfl
theorem w_Mod_init : Cond.code y_Mod_init b_Mod_init 5 none ∈ rx_W := rx_in t_518 rfl
theorem z_Mod_init : Cond.instanceMethod y_Mod_init ∈ rx_W := rx_in t_517 rfl
theorem w_Net_init : Cond.code y_Net_init b_Net_init 8 none ∈ rx_W := rx_in t_14 rfl
theorem z_Net_init : Cond.instanceMethod y_Net_init ∈ rx_W := rx_in t_13 rfl
theorem cz_Msg (l : Launch) (D : va_G) (b : Nat) (ca : Nat → ClassId) {F : Nat → va_E} {n i : Nat} : rz_C l D b ca y_Msg_init b_Msg_init 1 (rz_rm 1 0 0) [.ref (b + i)] n F n F 0 0 := by
  refine rz_of D b ca (lo := [(0, .ref (b + i))]) (by decide) rfl rfl (Nat.le_of_ble_eq_true rfl) rfl ?_
  intro p e s mm below meth c C hin2 hb0
  refine rx_aload_n C.1 (pc := 0) d_Msg_init_0 rfl ?_
  refine rz_obj C.1 (rx_in t_33 rfl) (rx_in t_16 rfl) (rx_in t_17 rfl) (pc := 1) d_Msg_init_1 (Nat.le_of_ble_eq_true rfl) (Nat.le_of_ble_eq_true rfl) ?_
  exact rz_ret D b ca C (pc := 4) d_Msg_init_4
def fw_rows (b k : Nat) : Nat → Option Nat := fun t => if t < k then some (b + (3 + t)) else none
def fw_Wire (b : Nat) (ca : Nat → ClassId) (F : Nat → va_E) (k : Nat) : Nat → va_E := fun j => if j = 2 then .inl (ca 1, 41, .inr (.inr (.inr (.inr (fw_rows b k))))) else if 3 ≤ j ∧ j < 3 + k then .inr (1, [.int 0, .int 0, .int 0, .int 0, .int 0, .int 0, .int 0, .int 0, .int 0]) else F j
theorem fw_1 {b k : Nat} {ca : Nat → ClassId} {F : Nat → va_E} : fw_Wire b ca F k 1 = F 1 := by
  unfold fw_Wire
  rw [if_neg (by omega), if_neg (by omega)]
theorem fw_2 {b k : Nat} {ca : Nat → ClassId} {F : Nat → va_E} : fw_Wire b ca F k 2 = .inl (ca 1, 41, .inr (.inr (.inr (.inr (fw_rows b k))))) := if_pos rfl
theorem fw_step {b k : Nat} {ca : Nat → ClassId} {F : Nat → va_E} {j : Nat} (hj : j = k) : va_up (va_up (fw_Wire b ca F k) (3 + k) (.inr (1, [.int 0, .int 0, .int 0, .int 0, .int 0, .int 0, .int 0, .int 0, .int 0]))) 2 (.inl (ca 1, 41, .inr (.inr (.inr (.inr (va_up (fw_rows b k) j (some (b + (3 + k))))))))) = fw_Wire b ca F (k + 1) := by
  subst hj
  funext i
  by_cases h2 : i = 2
  · subst h2
    have key : va_up (fw_rows b j) j (some (b + (3 + j))) = fw_rows b (j + 1) := by
      funext t
      unfold fw_rows va_up
      by_cases ht : t = j
      · subst ht
        rw [if_pos rfl, if_pos (by omega)]
      · rw [if_neg ht]
        show (if t < j then some (b + (3 + t)) else none) = _
        by_cases h3 : t < j
        · rw [if_pos h3, if_pos (by omega)]
        · rw [if_neg h3, if_neg (by omega)]
    rw [va_up_self, fw_2, key]
  · rw [va_up_ne _ _ h2]
    by_cases h3 : i = 3 + j
    · subst h3
      rw [va_up_self]
      unfold fw_Wire
      rw [if_neg (by omega), if_pos (by omega)]
    · rw [va_up_ne _ _ h3]
      unfold fw_Wire
      rw [if_neg h2, if_neg h2]
      by_cases h4 : 3 ≤ i ∧ i < 3 + j
      · rw [if_pos h4, if_pos (by omega)]
      · rw [if_neg h4, if_neg (by omega)]
theorem fw_0 {b : Nat} {ca : Nat → ClassId} {F : Nat → va_E} (h : F 2 = .inl (ca 1, 41, .inr (.inr (.inr (.inr (fun _ => none)))))) : F = fw_Wire b ca F 0 := by
  funext i
  unfold fw_Wire
  by_cases h2 : i = 2
  · subst h2
    rw [if_pos rfl, h]
    rfl
  · rw [if_neg h2, if_neg (by omega)]
set_option maxHeartbeats 4000000 in
theorem lp_Wire_init (l : Launch) (D : va_G) (b : Nat) (ca : Nat → ClassId) {F : Nat → va_E} {p : Program} {e : Env} {s : State} {mm : MethodId} {args : Array Value} {below : List Frame} {meth : Method} {c : Code} {H0 : Heap} {Q : State → Prop} (C : rx_Cw p s mm args meth c R_Wire b_Wire_init 2 none (rx_fin D b ca)) (hF : F 1 = .inr (2, [.ref (b + 2), .int 0, .int 0]))
    (kx : rx_X p l e (rz_rm 2 42 410) s mm args below meth c (fun q => b ≤ q) H0 42 410 Q 2 (rz_m D b 44 (fw_Wire b ca F 41)) 40 [(1, .int (nI 41)), (0, .ref (b + 1))] []) :
    ∀ (j k : Nat), k + j = 41 → rx_X p l e (rz_rm 2 42 410) s mm args below meth c (fun q => b ≤ q) H0 (1 + k) (41 + 9 * k) Q 2 (rz_m D b (3 + k) (fw_Wire b ca F k)) 15 [(1, .int (nI k)), (0, .ref (b + 1))] [] := by
  intro j
  induction j with
  | zero =>
    intro k hk
    have hk2 : k = 41 := by omega
    subst hk2
    refine rx_iload_n C.1 (pc := 15) d_Wire_init_15 rfl ?_
    refine rx_bipush C.1 (v := 40) (pc := 16) d_Wire_init_16 (by decide) ?_
    refine rx_icmp_gt C.1 (pc := 18) d_Wire_init_18 (tgt := 40) rfl (fun _ => ?_) (fun h => absurd (by decide) h)
    exact kx
  | succ j ih =>
    intro k hk
    refine rx_iload_n C.1 (pc := 15) d_Wire_init_15 rfl ?_
    refine rx_bipush C.1 (v := 40) (pc := 16) d_Wire_init_16 (by decide) ?_
    refine rx_icmp_gt C.1 (pc := 18) d_Wire_init_18 (tgt := 40) rfl (fun h => absurd h (nI_nlt (a := 40) (b := k) (by omega) (by decide))) (fun _ => ?_)
    refine rx_aload_n C.1 (pc := 21) d_Wire_init_21 rfl ?_
    refine rz_get D b ca (i := 1) (ci := 2) (k := 0) (fs := [.ref (b + 2), .int 0, .int 0]) (v := .ref (b + 2)) C u_Wire rfl (Nat.le_of_ble_eq_true rfl) (rx_in t_92 rfl) (pc := 22) d_Wire_init_22 (by omega) (fw_1.trans hF) rfl ?_
    refine rx_iload_n C.1 (pc := 25) d_Wire_init_25 rfl ?_
    refine rz_new D b ca (ci := 1) (fs := [.int 0, .int 0, .int 0, .int 0, .int 0, .int 0, .int 0, .int 0, .int 0]) C u_Msg t_Msg_ok rfl (rx_in t_27 rfl) (rx_in t_29 rfl) (rx_in t_3 rfl) o_Msg (pc := 26) d_Wire_init_26 (show 1 + k + 1 ≤ 42 by omega) (show 41 + 9 * k + 9 ≤ 410 by omega) ?_
    refine rx_dup C.1 (pc := 29) d_Wire_init_29 rfl ?_
    refine rz_callN D b ca (i := 3 + k) C w_Msg_init t_30 z_Msg_init (rx_in t_3 rfl) (by decide +kernel) rfl (pc := 30) d_Wire_init_30 (cz_Msg l D b ca) ⟨Nat.le_of_ble_eq_true rfl, Nat.le_of_ble_eq_true rfl⟩ ⟨show 1 + k + 1 + 0 ≤ 42 by omega, show 41 + 9 * k + 9 + 0 ≤ 410 by omega⟩ rfl rfl (Nat.le_of_ble_eq_true rfl) ?_
    refine rz_aast D b ca (i := 2) (N := 41) (t := 1) (qk := 3 + k) (f := fw_rows b k) (r := (R_Msg, F_Msg, 9)) (vs := [.int 0, .int 0, .int 0, .int 0, .int 0, .int 0, .int 0, .int 0, .int 0]) C (pc := 33) d_Wire_init_33 (by omega) (by rw [va_up_ne _ _ (by omega)]; exact fw_2) rfl (by omega) (va_up_self _ _ _) rfl (vp_in_nI (by omega) (by decide)) ?_
    rw [fw_step (nI_clamp (by omega))]
    refine rx_iinc C.1 (v := nI (k + 1)) (pc := 34) d_Wire_init_34 rfl (nI_succ k).symm (by decide) ?_
    refine rx_goto C.1 (pc := 37) d_Wire_init_37 (tgt := 15) rfl ?_
    refine rx_loc C.1 (rx_sub_all (lo' := [(1, .int (nI (k + 1))), (0, .ref (b + 1))]) ⟨rfl, rfl, trivial⟩) ?_
    exact ih (k + 1) (by omega)
theorem rz_eq {p : Program} {l : Launch} {e : Env} {R : Room} {s : State} {m : MethodId} {args : Array Value} {below : List Frame} {meth : Method} {c : Code} {O : Nat → Prop} {H0 : Heap} {cells slots : Nat} {Q : State → Prop} {nL n pc : Nat} {F F' : Nat → va_E} {lo : List (Nat × Value)} {st : List Value} (D : va_G) (b : Nat) (h : F = F') (k : rx_X p l e R s m args below meth c O H0 cells slots Q nL (rz_m D b n F') pc lo st) : rx_X p l e R s m args below meth c O H0 cells slots Q nL (rz_m D b n F) pc lo st := h ▸ k
def fz_Wire_1 (b : Nat) (ca : Nat → ClassId) (F : Nat → va_E)  : Nat → va_E := let f1 := va_up F 2 (.inl (ca 1, 41, .inr (.inr (.inr (.inr (fun _ => none)))))); let f2 := va_up f1 1 (.inr (2, [.ref (b + 2), .int 0, .int 0])); let f3 := fw_Wire b ca f2 41; f3
set_option maxHeartbeats 4000000 in
set_option maxRecDepth 100000 in
theorem cz_Wire_1 (l : Launch) (D : va_G) (b : Nat) (ca : Nat → ClassId) {F : Nat → va_E}  (hF : F 1 = .inr (2, [.null, .int 0, .int 0])) : rz_C l D b ca y_Wire_init b_Wire_init 2 (rz_rm 2 42 410) [.ref (b + 1)] 2 F 44 (fz_Wire_1 b ca F ) 42 410 := by
  refine rz_of D b ca (lo := [(0, .ref (b + 1))]) (by decide) rfl rfl (Nat.le_of_ble_eq_true rfl) rfl ?_
  intro p e s mm below meth c C hin2 hb0
  refine rx_aload_n C.1 (pc := 0) d_Wire_init_0 rfl ?_
  refine rz_obj C.1 (rx_in t_26 rfl) (rx_in t_16 rfl) (rx_in t_17 rfl) (pc := 1) d_Wire_init_1 (Nat.le_of_ble_eq_true rfl) (Nat.le_of_ble_eq_true rfl) ?_
  refine rx_aload_n C.1 (pc := 4) d_Wire_init_4 rfl ?_
  refine rx_bipush C.1 (v := 41) (pc := 5) d_Wire_init_5 (by decide) ?_
  refine rz_newq D b ca (N := 41) (t := 1) C (rx_in t_27 rfl) t_28 (C.2.1.2.2 _ t_28) rfl (pc := 7) d_Wire_init_7 (by decide) rfl (by decide) (Nat.le_of_ble_eq_true rfl) (Nat.le_of_ble_eq_true rfl) ?_
  refine rz_putF D b ca (i := 1) (ci := 2) (k := 0) (fs := [.null, .int 0, .int 0]) (v := .ref (b + 2)) (ty := (.array (.object "RoamingNet$Message"))) C u_Wire t_Wire_ok n_Wire rfl (Nat.le_of_ble_eq_true rfl) (rx_in t_92 rfl) rfl rfl (by decide +kernel) rfl rfl (pc := 10) d_Wire_init_10 hin2 (by decide) hF (Nat.le_of_ble_eq_true rfl) ?_
  refine rx_iconst C.1 (v := 0) (pc := 13) d_Wire_init_13 (by decide) ?_
  refine rx_istore_n C.1 (pc := 14) d_Wire_init_14 (by decide) ?_
  refine rx_loc C.1 (rx_sub_all (lo' := [(1, .int (nI 0)), (0, .ref (b + 1))]) ⟨rfl, rfl, trivial⟩) ?_
  have hz := fw_0 (b := b) (ca := ca) (F := va_up (va_up F 2 (.inl (ca 1, 41, .inr (.inr (.inr (.inr (fun _ => none))))))) 1 (.inr (2, [.ref (b + 2), .int 0, .int 0]))) rfl
  refine rz_eq D b hz ?_
  refine lp_Wire_init l D b ca C rfl ?_ 41 0 rfl
  exact rz_retE D b ca C (pc := 40) d_Wire_init_40 (by first | rfl | (unfold fz_Wire_1; rfl))
def fz_Net_0 (b : Nat) (ca : Nat → ClassId) (F : Nat → va_E) (x y z : Int32) : Nat → va_E := let f1 := va_up F 1 (.inr (2, [.null, .int 0, .int 0])); let f2 := fz_Wire_1 b ca f1 ; let f3 := va_up f2 0 (.inr (0, [.ref (b + 1), .null, .null, .null, .null, .null])); let f4 := va_up f3 44 (.inr (1, [.int 0, .int 0, .int 0, .int 0, .int 0, .int 0, .int 0, .int 0, .int 0])); let f5 := va_up f4 0 (.inr (0, [.ref (b + 1), .ref (b + 44), .null, .null, .null, .null])); let f6 := va_up f5 45 (.inl (ca 2, 2, .inr (.inr (.inr (.inr (fun _ => none)))))); let f7 := va_up f6 0 (.inr (0, [.ref (b + 1), .ref (b + 44), .ref (b + 45), .null, .null, .null])); let f8 := va_up f7 46 (.inr (3, [.int 0, .int 0, .null, .int 0, .int 0, .int 0, .int 0, .int 0, .int 0, .int 0, .int 0, .int 0, .int 0, .int 0])); let f9 := fz_Mob_46 b ca f8 0 (if (rv_Net_isWithin x 6 60) = 0 then 20 else x : Int32); let f10 := va_up f9 45 (.inl (ca 2, 2, .inr (.inr (.inr (.inr (va_up (fun _ => none) (Int32.toNatClampNeg 0) (some (b + 46)))))))); let f11 := va_up f10 47 (.inr (3, [.int 0, .int 0, .null, .int 0, .int 0, .int 0, .int 0, .int 0, .int 0, .int 0, .int 0, .int 0, .int 0, .int 0])); let f12 := fz_Mob_47 b ca f11 1 (if (rv_Net_isWithin x 6 60) = 0 then 20 else x : Int32); let f13 := va_up f12 45 (.inl (ca 2, 2, .inr (.inr (.inr (.inr (va_up (va_up (fun _ => none) (Int32.toNatClampNeg 0) (some (b + 46))) (Int32.toNatClampNeg 1) (some (b + 47)))))))); let f14 := va_up f13 48 (.inr (4, [.int 0, .null, .null, .null, .null, .null])); let f15 := fz_Home_48 b ca f14 (if (rv_Net_isWithin y 6 60) = 0 then 30 else y : Int32); let f16 := va_up f15 0 (.inr (0, [.ref (b + 1), .ref (b + 44), .ref (b + 45), .ref (b + 48), .null, .null])); let f17 := va_up f16 53 (.inl (ca 3, 3, .inr (.inr (.inr (.inr (fun _ => none)))))); let f18 := va_up f17 0 (.inr (0, [.ref (b + 1), .ref (b + 44), .ref (b + 45), .ref (b + 48), .ref (b + 53), .null])); let f19 := va_up f18 54 (.inr (5, [.int 0, .int 0, .null, .null, .null, .null])); let f20 := fz_Fa_54 b ca f19 1 (if z = 1 then 1 else 2 : Int32); let f21 := va_up f20 53 (.inl (ca 3, 3, .inr (.inr (.inr (.inr (va_up (fun _ => none) (Int32.toNatClampNeg 0) (some (b + 54)))))))); let f22 := va_up f21 58 (.inr (5, [.int 0, .int 0, .null, .null, .null, .null])); let f23 := fz_Fa_58 b ca f22 2 (if z = 1 then 1 else 2 : Int32); let f24 := va_up f23 53 (.inl (ca 3, 3, .inr (.inr (.inr (.inr (va_up (va_up (fun _ => none) (Int32.toNatClampNeg 0) (some (b + 54))) (Int32.toNatClampNeg 1) (some (b + 58)))))))); let f25 := va_up f24 62 (.inr (5, [.int 0, .int 0, .null, .null, .null, .null])); let f26 := fz_Fa_62 b ca f25 3 (if z = 1 then 1 else 2 : Int32); let f27 := va_up f26 53 (.inl (ca 3, 3, .inr (.inr (.inr (.inr (va_up (va_up (va_up (fun _ => none) (Int32.toNatClampNeg 0) (some (b + 54))) (Int32.toNatClampNeg 1) (some (b + 58))) (Int32.toNatClampNeg 2) (some (b + 62)))))))); let f28 := va_up f27 66 (.inr (6, [.null, .null, .null, .null, .null])); let f29 := fz_Corr_66 b ca f28 ; let f30 := va_up f29 0 (.inr (0, [.ref (b + 1), .ref (b + 44), .ref (b + 45), .ref (b + 48), .ref (b + 53), .ref (b + 66)])); f30
set_option maxHeartbeats 4000000 in
set_option maxRecDepth 100000 in
theorem cz_Net_0 (l : Launch) (D : va_G) (b : Nat) (ca : Nat → ClassId) {F : Nat → va_E} {x y z : Int32} (hF : F 0 = .inr (0, [.null, .null, .null, .null, .null, .null])) : rz_C l D b ca y_Net_init b_Net_init 8 (rz_rm 3 70 518) [.ref (b + 0), .int x, .int y, .int z] 1 F 71 (fz_Net_0 b ca F x y z) 70 518 := by
  refine rz_of D b ca (lo := [(0, .ref (b + 0)), (1, .int x), (2, .int y), (3, .int z)]) (by decide) rfl rfl (Nat.le_of_ble_eq_true rfl) rfl ?_
  intro p e s mm below meth c C hin2 hb0
  refine rx_aload_n C.1 (pc := 0) d_Net_init_0 rfl ?_
  refine rz_obj C.1 (rx_in t_15 rfl) (rx_in t_16 rfl) (rx_in t_17 rfl) (pc := 1) d_Net_init_1 (Nat.le_of_ble_eq_true rfl) (Nat.le_of_ble_eq_true rfl) ?_
  refine rx_iload_n C.1 (pc := 4) d_Net_init_4 rfl ?_
  refine rx_bipush C.1 (v := 6) (pc := 5) d_Net_init_5 (by decide) ?_
  refine rx_bipush C.1 (v := 60) (pc := 7) d_Net_init_7 (by decide) ?_
  refine q_Net_11 C.1 (pc := 9) d_Net_init_9 (c_Net_isWithin l ) ⟨Nat.le_of_ble_eq_true rfl, Nat.le_of_ble_eq_true rfl⟩ ⟨Nat.zero_le _, Nat.zero_le _⟩ (Nat.le_of_ble_eq_true rfl) ?_
  refine rx_cut1 (jpc := 21) (v := if (rv_Net_isWithin x 6 60) = 0 then 20 else x) (fun hk => ?_) ?_
  ·
    refine rx_if_eq C.1 (pc := 12) d_Net_init_12 (tgt := 19) rfl (fun h1 => ?_) (fun h1 => ?_)
    ·
      refine rx_bipush C.1 (v := 20) (pc := 19) d_Net_init_19 (by decide) ?_
      rw [if_pos h1] at hk
      exact hk
    ·
      refine rx_iload_n C.1 (pc := 15) d_Net_init_15 rfl ?_
      refine rx_goto C.1 (pc := 16) d_Net_init_16 (tgt := 21) rfl ?_
      rw [if_neg h1] at hk
      exact hk
  refine rx_istore C.1 (pc := 21) d_Net_init_21 (by decide) ?_
  refine rx_iload_n C.1 (pc := 23) d_Net_init_23 rfl ?_
  refine rx_bipush C.1 (v := 6) (pc := 24) d_Net_init_24 (by decide) ?_
  refine rx_bipush C.1 (v := 60) (pc := 26) d_Net_init_26 (by decide) ?_
  refine q_Net_11 C.1 (pc := 28) d_Net_init_28 (c_Net_isWithin l ) ⟨Nat.le_of_ble_eq_true rfl, Nat.le_of_ble_eq_true rfl⟩ ⟨Nat.zero_le _, Nat.zero_le _⟩ (Nat.le_of_ble_eq_true rfl) ?_
  refine rx_cut1 (jpc := 40) (v := if (rv_Net_isWithin y 6 60) = 0 then 30 else y) (fun hk => ?_) ?_
  ·
    refine rx_if_eq C.1 (pc := 31) d_Net_init_31 (tgt := 38) rfl (fun h2 => ?_) (fun h2 => ?_)
    ·
      refine rx_bipush C.1 (v := 30) (pc := 38) d_Net_init_38 (by decide) ?_
      rw [if_pos h2] at hk
      exact hk
    ·
      refine rx_iload_n C.1 (pc := 34) d_Net_init_34 rfl ?_
      refine rx_goto C.1 (pc := 35) d_Net_init_35 (tgt := 40) rfl ?_
      rw [if_neg h2] at hk
      exact hk
  refine rx_istore C.1 (pc := 40) d_Net_init_40 (by decide) ?_
  refine rx_iload_n C.1 (pc := 42) d_Net_init_42 rfl ?_
  refine rx_iconst C.1 (v := 1) (pc := 43) d_Net_init_43 (by decide) ?_
  refine rx_cut2 (jpc := 52) (v := if z = 1 then 1 else 2) (fun hk => ?_) ?_
  ·
    refine rx_icmp_ne C.1 (pc := 44) d_Net_init_44 (tgt := 51) rfl (fun h3 => ?_) (fun h3 => ?_)
    ·
      refine rx_iconst C.1 (v := 2) (pc := 51) d_Net_init_51 (by decide) ?_
      rw [if_neg h3] at hk
      exact hk
    ·
      refine rx_iconst C.1 (v := 1) (pc := 47) d_Net_init_47 (by decide) ?_
      refine rx_goto C.1 (pc := 48) d_Net_init_48 (tgt := 52) rfl ?_
      rw [if_pos h3] at hk
      exact hk
  refine rx_istore C.1 (pc := 52) d_Net_init_52 (by decide) ?_
  refine rx_aload_n C.1 (pc := 54) d_Net_init_54 rfl ?_
  refine rz_new D b ca (ci := 2) (fs := [.null, .int 0, .int 0]) C u_Wire t_Wire_ok rfl (rx_in t_21 rfl) (rx_in t_22 rfl) (rx_in t_2 rfl) o_Wire (pc := 55) d_Net_init_55 (Nat.le_of_ble_eq_true rfl) (Nat.le_of_ble_eq_true rfl) ?_
  refine rx_dup C.1 (pc := 58) d_Net_init_58 rfl ?_
  refine rz_callN D b ca (i := 1) (nA := 0) C w_Wire_init t_23 z_Wire_init (rx_in t_2 rfl) (by decide +kernel) rfl (pc := 59) d_Net_init_59 (cz_Wire_1 l D b ca rfl) ⟨Nat.le_of_ble_eq_true rfl, Nat.le_of_ble_eq_true rfl⟩ ⟨Nat.le_of_ble_eq_true rfl, Nat.le_of_ble_eq_true rfl⟩ rfl rfl (Nat.le_of_ble_eq_true rfl) ?_
  refine rz_putF D b ca (i := 0) (ci := 0) (k := 0) (fs := [.null, .null, .null, .null, .null, .null]) (v := .ref (b + 1)) (ty := (.object "RoamingNet$Wire")) C u_Net t_Net_ok n_Net rfl (Nat.le_of_ble_eq_true rfl) (rx_in t_247 rfl) rfl rfl (by decide +kernel) rfl rfl (pc := 62) d_Net_init_62 hin2 (by decide) hF (Nat.le_of_ble_eq_true rfl) ?_
  refine rx_aload_n C.1 (pc := 65) d_Net_init_65 rfl ?_
  refine rz_new D b ca (ci := 1) (fs := [.int 0, .int 0, .int 0, .int 0, .int 0, .int 0, .int 0, .int 0, .int 0]) C u_Msg t_Msg_ok rfl (rx_in t_108 rfl) (rx_in t_29 rfl) (rx_in t_3 rfl) o_Msg (pc := 66) d_Net_init_66 (Nat.le_of_ble_eq_true rfl) (Nat.le_of_ble_eq_true rfl) ?_
  refine rx_dup C.1 (pc := 69) d_Net_init_69 rfl ?_
  refine rz_callN D b ca (i := 44) (nA := 0) C w_Msg_init t_109 z_Msg_init (rx_in t_3 rfl) (by decide +kernel) rfl (pc := 70) d_Net_init_70 (cz_Msg l D b ca) ⟨Nat.le_of_ble_eq_true rfl, Nat.le_of_ble_eq_true rfl⟩ ⟨Nat.le_of_ble_eq_true rfl, Nat.le_of_ble_eq_true rfl⟩ rfl rfl (Nat.le_of_ble_eq_true rfl) ?_
  refine rz_putF D b ca (i := 0) (ci := 0) (k := 1) (fs := [.ref (b + 1), .null, .null, .null, .null, .null]) (v := .ref (b + 44)) (ty := (.object "RoamingNet$Message")) C u_Net t_Net_ok n_Net rfl (Nat.le_of_ble_eq_true rfl) (rx_in t_248 rfl) rfl rfl (by decide +kernel) rfl rfl (pc := 73) d_Net_init_73 hin2 (by decide) rfl (Nat.le_of_ble_eq_true rfl) ?_
  refine rx_aload_n C.1 (pc := 76) d_Net_init_76 rfl ?_
  refine rx_iconst C.1 (v := 2) (pc := 77) d_Net_init_77 (by decide) ?_
  refine rz_newq D b ca (N := 2) (t := 2) C (rx_in t_110 rfl) t_111 (C.2.1.2.2 _ t_111) rfl (pc := 78) d_Net_init_78 (by decide) rfl (by decide) (Nat.le_of_ble_eq_true rfl) (Nat.le_of_ble_eq_true rfl) ?_
  refine rz_putF D b ca (i := 0) (ci := 0) (k := 2) (fs := [.ref (b + 1), .ref (b + 44), .null, .null, .null, .null]) (v := .ref (b + 45)) (ty := (.array (.object "RoamingNet$Mobile"))) C u_Net t_Net_ok n_Net rfl (Nat.le_of_ble_eq_true rfl) (rx_in t_249 rfl) rfl rfl (by decide +kernel) rfl rfl (pc := 81) d_Net_init_81 hin2 (by decide) rfl (Nat.le_of_ble_eq_true rfl) ?_
  refine rx_iconst C.1 (v := 0) (pc := 84) d_Net_init_84 (by decide) ?_
  refine rx_istore C.1 (pc := 85) d_Net_init_85 (by decide) ?_
  refine rx_iload C.1 (pc := 87) d_Net_init_87 rfl ?_
  refine rx_iconst C.1 (v := 2) (pc := 89) d_Net_init_89 (by decide) ?_
  refine rx_icmp_ge C.1 (pc := 90) d_Net_init_90 (tgt := 121) rfl (fun h9 => absurd h9 (by decide)) (fun _ => ?_)
  refine rx_aload_n C.1 (pc := 93) d_Net_init_93 rfl ?_
  refine rz_get D b ca (i := 0) (ci := 0) (k := 2) (fs := [.ref (b + 1), .ref (b + 44), .ref (b + 45), .null, .null, .null]) (v := .ref (b + 45)) C u_Net rfl (Nat.le_of_ble_eq_true rfl) (rx_in t_249 rfl) (pc := 94) d_Net_init_94 (by decide) rfl rfl ?_
  refine rx_iload C.1 (pc := 97) d_Net_init_97 rfl ?_
  refine rz_new D b ca (ci := 3) (fs := [.int 0, .int 0, .null, .int 0, .int 0, .int 0, .int 0, .int 0, .int 0, .int 0, .int 0, .int 0, .int 0, .int 0]) C u_Mob t_Mob_ok rfl (rx_in t_110 rfl) (rx_in t_112 rfl) (rx_in t_4 rfl) o_Mob (pc := 99) d_Net_init_99 (Nat.le_of_ble_eq_true rfl) (Nat.le_of_ble_eq_true rfl) ?_
  refine rx_dup C.1 (pc := 102) d_Net_init_102 rfl ?_
  refine rx_iload C.1 (pc := 103) d_Net_init_103 rfl ?_
  refine rx_iload C.1 (pc := 105) d_Net_init_105 rfl ?_
  refine rx_aload_n C.1 (pc := 107) d_Net_init_107 rfl ?_
  refine rz_get D b ca (i := 0) (ci := 0) (k := 0) (fs := [.ref (b + 1), .ref (b + 44), .ref (b + 45), .null, .null, .null]) (v := .ref (b + 1)) C u_Net rfl (Nat.le_of_ble_eq_true rfl) (rx_in t_247 rfl) (pc := 108) d_Net_init_108 (by decide) rfl rfl ?_
  refine rz_callN D b ca (i := 46) (nA := 3) C w_Mob_init t_113 z_Mob_init (rx_in t_4 rfl) (by decide +kernel) rfl (pc := 111) d_Net_init_111 (cz_Mob_46 l D b ca rfl) ⟨Nat.le_of_ble_eq_true rfl, Nat.le_of_ble_eq_true rfl⟩ ⟨Nat.le_of_ble_eq_true rfl, Nat.le_of_ble_eq_true rfl⟩ rfl rfl (Nat.le_of_ble_eq_true rfl) ?_
  refine rz_aast D b ca (i := 45) (N := 2) (t := 2) (qk := 46) (f := (fun _ => none)) (r := (R_Mob, F_Mob, 14)) (vs := [.int 0, .int (if (rv_Net_isWithin x 6 60) = 0 then 20 else x : Int32), .ref (b + 1), .int 0, .int 0, .int 0, .int 0, .int 2147483647, .int (-1), .int 0, .int 0, .int 0, .int 0, .int 0]) C (pc := 114) d_Net_init_114 (by decide) rfl rfl (by decide) rfl rfl (vp_in_iff.mpr (by decide)) ?_
  refine rx_iinc C.1 (v := 1) (pc := 115) d_Net_init_115 rfl (by decide) (by decide) ?_
  refine rx_goto C.1 (pc := 118) d_Net_init_118 (tgt := 87) rfl ?_
  refine rx_iload C.1 (pc := 87) d_Net_init_87 rfl ?_
  refine rx_iconst C.1 (v := 2) (pc := 89) d_Net_init_89 (by decide) ?_
  refine rx_icmp_ge C.1 (pc := 90) d_Net_init_90 (tgt := 121) rfl (fun h9 => absurd h9 (by decide)) (fun _ => ?_)
  refine rx_aload_n C.1 (pc := 93) d_Net_init_93 rfl ?_
  refine rz_get D b ca (i := 0) (ci := 0) (k := 2) (fs := [.ref (b + 1), .ref (b + 44), .ref (b + 45), .null, .null, .null]) (v := .ref (b + 45)) C u_Net rfl (Nat.le_of_ble_eq_true rfl) (rx_in t_249 rfl) (pc := 94) d_Net_init_94 (by decide) rfl rfl ?_
  refine rx_iload C.1 (pc := 97) d_Net_init_97 rfl ?_
  refine rz_new D b ca (ci := 3) (fs := [.int 0, .int 0, .null, .int 0, .int 0, .int 0, .int 0, .int 0, .int 0, .int 0, .int 0, .int 0, .int 0, .int 0]) C u_Mob t_Mob_ok rfl (rx_in t_110 rfl) (rx_in t_112 rfl) (rx_in t_4 rfl) o_Mob (pc := 99) d_Net_init_99 (Nat.le_of_ble_eq_true rfl) (Nat.le_of_ble_eq_true rfl) ?_
  refine rx_dup C.1 (pc := 102) d_Net_init_102 rfl ?_
  refine rx_iload C.1 (pc := 103) d_Net_init_103 rfl ?_
  refine rx_iload C.1 (pc := 105) d_Net_init_105 rfl ?_
  refine rx_aload_n C.1 (pc := 107) d_Net_init_107 rfl ?_
  refine rz_get D b ca (i := 0) (ci := 0) (k := 0) (fs := [.ref (b + 1), .ref (b + 44), .ref (b + 45), .null, .null, .null]) (v := .ref (b + 1)) C u_Net rfl (Nat.le_of_ble_eq_true rfl) (rx_in t_247 rfl) (pc := 108) d_Net_init_108 (by decide) rfl rfl ?_
  refine rz_callN D b ca (i := 47) (nA := 3) C w_Mob_init t_113 z_Mob_init (rx_in t_4 rfl) (by decide +kernel) rfl (pc := 111) d_Net_init_111 (cz_Mob_47 l D b ca rfl) ⟨Nat.le_of_ble_eq_true rfl, Nat.le_of_ble_eq_true rfl⟩ ⟨Nat.le_of_ble_eq_true rfl, Nat.le_of_ble_eq_true rfl⟩ rfl rfl (Nat.le_of_ble_eq_true rfl) ?_
  refine rz_aast D b ca (i := 45) (N := 2) (t := 2) (qk := 47) (f := (va_up (fun _ => none) (Int32.toNatClampNeg 0) (some (b + 46)))) (r := (R_Mob, F_Mob, 14)) (vs := [.int 1, .int (if (rv_Net_isWithin x 6 60) = 0 then 20 else x : Int32), .ref (b + 1), .int 0, .int 0, .int 0, .int 0, .int 2147483647, .int (-1), .int 0, .int 0, .int 0, .int 0, .int 0]) C (pc := 114) d_Net_init_114 (by decide) rfl rfl (by decide) rfl rfl (vp_in_iff.mpr (by decide)) ?_
  refine rx_iinc C.1 (v := 2) (pc := 115) d_Net_init_115 rfl (by decide) (by decide) ?_
  refine rx_goto C.1 (pc := 118) d_Net_init_118 (tgt := 87) rfl ?_
  refine rx_iload C.1 (pc := 87) d_Net_init_87 rfl ?_
  refine rx_iconst C.1 (v := 2) (pc := 89) d_Net_init_89 (by decide) ?_
  refine rx_icmp_ge C.1 (pc := 90) d_Net_init_90 (tgt := 121) rfl (fun _ => ?_) (fun h9 => absurd (by decide) h9)
  refine rx_aload_n C.1 (pc := 121) d_Net_init_121 rfl ?_
  refine rz_new D b ca (ci := 4) (fs := [.int 0, .null, .null, .null, .null, .null]) C u_Home t_Home_ok rfl (rx_in t_166 rfl) (rx_in t_167 rfl) (rx_in t_5 rfl) o_Home (pc := 122) d_Net_init_122 (Nat.le_of_ble_eq_true rfl) (Nat.le_of_ble_eq_true rfl) ?_
  refine rx_dup C.1 (pc := 125) d_Net_init_125 rfl ?_
  refine rx_iload C.1 (pc := 126) d_Net_init_126 rfl ?_
  refine rx_aload_n C.1 (pc := 128) d_Net_init_128 rfl ?_
  refine rz_get D b ca (i := 0) (ci := 0) (k := 0) (fs := [.ref (b + 1), .ref (b + 44), .ref (b + 45), .null, .null, .null]) (v := .ref (b + 1)) C u_Net rfl (Nat.le_of_ble_eq_true rfl) (rx_in t_247 rfl) (pc := 129) d_Net_init_129 (by decide) rfl rfl ?_
  refine rz_callN D b ca (i := 48) (nA := 2) C w_Home_init t_168 z_Home_init (rx_in t_5 rfl) (by decide +kernel) rfl (pc := 132) d_Net_init_132 (cz_Home_48 l D b ca rfl) ⟨Nat.le_of_ble_eq_true rfl, Nat.le_of_ble_eq_true rfl⟩ ⟨Nat.le_of_ble_eq_true rfl, Nat.le_of_ble_eq_true rfl⟩ rfl rfl (Nat.le_of_ble_eq_true rfl) ?_
  refine rz_putF D b ca (i := 0) (ci := 0) (k := 3) (fs := [.ref (b + 1), .ref (b + 44), .ref (b + 45), .null, .null, .null]) (v := .ref (b + 48)) (ty := (.object "RoamingNet$HomeAgent")) C u_Net t_Net_ok n_Net rfl (Nat.le_of_ble_eq_true rfl) (rx_in t_250 rfl) rfl rfl (by decide +kernel) rfl rfl (pc := 135) d_Net_init_135 hin2 (by decide) rfl (Nat.le_of_ble_eq_true rfl) ?_
  refine rx_aload_n C.1 (pc := 138) d_Net_init_138 rfl ?_
  refine rx_iconst C.1 (v := 3) (pc := 139) d_Net_init_139 (by decide) ?_
  refine rz_newq D b ca (N := 3) (t := 3) C (rx_in t_195 rfl) t_196 (C.2.1.2.2 _ t_196) rfl (pc := 140) d_Net_init_140 (by decide) rfl (by decide) (Nat.le_of_ble_eq_true rfl) (Nat.le_of_ble_eq_true rfl) ?_
  refine rz_putF D b ca (i := 0) (ci := 0) (k := 4) (fs := [.ref (b + 1), .ref (b + 44), .ref (b + 45), .ref (b + 48), .null, .null]) (v := .ref (b + 53)) (ty := (.array (.object "RoamingNet$ForeignAgent"))) C u_Net t_Net_ok n_Net rfl (Nat.le_of_ble_eq_true rfl) (rx_in t_251 rfl) rfl rfl (by decide +kernel) rfl rfl (pc := 143) d_Net_init_143 hin2 (by decide) rfl (Nat.le_of_ble_eq_true rfl) ?_
  refine rx_iconst C.1 (v := 1) (pc := 146) d_Net_init_146 (by decide) ?_
  refine rx_istore C.1 (pc := 147) d_Net_init_147 (by decide) ?_
  refine rx_iload C.1 (pc := 149) d_Net_init_149 rfl ?_
  refine rx_iconst C.1 (v := 4) (pc := 151) d_Net_init_151 (by decide) ?_
  refine rx_icmp_ge C.1 (pc := 152) d_Net_init_152 (tgt := 185) rfl (fun h9 => absurd h9 (by decide)) (fun _ => ?_)
  refine rx_aload_n C.1 (pc := 155) d_Net_init_155 rfl ?_
  refine rz_get D b ca (i := 0) (ci := 0) (k := 4) (fs := [.ref (b + 1), .ref (b + 44), .ref (b + 45), .ref (b + 48), .ref (b + 53), .null]) (v := .ref (b + 53)) C u_Net rfl (Nat.le_of_ble_eq_true rfl) (rx_in t_251 rfl) (pc := 156) d_Net_init_156 (by decide) rfl rfl ?_
  refine rx_iload C.1 (pc := 159) d_Net_init_159 rfl ?_
  refine rx_iconst C.1 (v := 1) (pc := 161) d_Net_init_161 (by decide) ?_
  refine rx_isubv C.1 (v := 0) (pc := 162) d_Net_init_162 (by decide) ?_
  refine rz_new D b ca (ci := 5) (fs := [.int 0, .int 0, .null, .null, .null, .null]) C u_Fa t_Fa_ok rfl (rx_in t_195 rfl) (rx_in t_197 rfl) (rx_in t_6 rfl) o_Fa (pc := 163) d_Net_init_163 (Nat.le_of_ble_eq_true rfl) (Nat.le_of_ble_eq_true rfl) ?_
  refine rx_dup C.1 (pc := 166) d_Net_init_166 rfl ?_
  refine rx_iload C.1 (pc := 167) d_Net_init_167 rfl ?_
  refine rx_iload C.1 (pc := 169) d_Net_init_169 rfl ?_
  refine rx_aload_n C.1 (pc := 171) d_Net_init_171 rfl ?_
  refine rz_get D b ca (i := 0) (ci := 0) (k := 0) (fs := [.ref (b + 1), .ref (b + 44), .ref (b + 45), .ref (b + 48), .ref (b + 53), .null]) (v := .ref (b + 1)) C u_Net rfl (Nat.le_of_ble_eq_true rfl) (rx_in t_247 rfl) (pc := 172) d_Net_init_172 (by decide) rfl rfl ?_
  refine rz_callN D b ca (i := 54) (nA := 3) C w_Fa_init t_198 z_Fa_init (rx_in t_6 rfl) (by decide +kernel) rfl (pc := 175) d_Net_init_175 (cz_Fa_54 l D b ca rfl) ⟨Nat.le_of_ble_eq_true rfl, Nat.le_of_ble_eq_true rfl⟩ ⟨Nat.le_of_ble_eq_true rfl, Nat.le_of_ble_eq_true rfl⟩ rfl rfl (Nat.le_of_ble_eq_true rfl) ?_
  refine rz_aast D b ca (i := 53) (N := 3) (t := 3) (qk := 54) (f := (fun _ => none)) (r := (R_Fa, F_Fa, 6)) (vs := [.int 1, .int (if z = 1 then 1 else 2 : Int32), .ref (b + 1), .ref (b + 55), .ref (b + 56), .ref (b + 57)]) C (pc := 178) d_Net_init_178 (by decide) rfl rfl (by decide) rfl rfl (vp_in_iff.mpr (by decide)) ?_
  refine rx_iinc C.1 (v := 2) (pc := 179) d_Net_init_179 rfl (by decide) (by decide) ?_
  refine rx_goto C.1 (pc := 182) d_Net_init_182 (tgt := 149) rfl ?_
  refine rx_iload C.1 (pc := 149) d_Net_init_149 rfl ?_
  refine rx_iconst C.1 (v := 4) (pc := 151) d_Net_init_151 (by decide) ?_
  refine rx_icmp_ge C.1 (pc := 152) d_Net_init_152 (tgt := 185) rfl (fun h9 => absurd h9 (by decide)) (fun _ => ?_)
  refine rx_aload_n C.1 (pc := 155) d_Net_init_155 rfl ?_
  refine rz_get D b ca (i := 0) (ci := 0) (k := 4) (fs := [.ref (b + 1), .ref (b + 44), .ref (b + 45), .ref (b + 48), .ref (b + 53), .null]) (v := .ref (b + 53)) C u_Net rfl (Nat.le_of_ble_eq_true rfl) (rx_in t_251 rfl) (pc := 156) d_Net_init_156 (by decide) rfl rfl ?_
  refine rx_iload C.1 (pc := 159) d_Net_init_159 rfl ?_
  refine rx_iconst C.1 (v := 1) (pc := 161) d_Net_init_161 (by decide) ?_
  refine rx_isubv C.1 (v := 1) (pc := 162) d_Net_init_162 (by decide) ?_
  refine rz_new D b ca (ci := 5) (fs := [.int 0, .int 0, .null, .null, .null, .null]) C u_Fa t_Fa_ok rfl (rx_in t_195 rfl) (rx_in t_197 rfl) (rx_in t_6 rfl) o_Fa (pc := 163) d_Net_init_163 (Nat.le_of_ble_eq_true rfl) (Nat.le_of_ble_eq_true rfl) ?_
  refine rx_dup C.1 (pc := 166) d_Net_init_166 rfl ?_
  refine rx_iload C.1 (pc := 167) d_Net_init_167 rfl ?_
  refine rx_iload C.1 (pc := 169) d_Net_init_169 rfl ?_
  refine rx_aload_n C.1 (pc := 171) d_Net_init_171 rfl ?_
  refine rz_get D b ca (i := 0) (ci := 0) (k := 0) (fs := [.ref (b + 1), .ref (b + 44), .ref (b + 45), .ref (b + 48), .ref (b + 53), .null]) (v := .ref (b + 1)) C u_Net rfl (Nat.le_of_ble_eq_true rfl) (rx_in t_247 rfl) (pc := 172) d_Net_init_172 (by decide) rfl rfl ?_
  refine rz_callN D b ca (i := 58) (nA := 3) C w_Fa_init t_198 z_Fa_init (rx_in t_6 rfl) (by decide +kernel) rfl (pc := 175) d_Net_init_175 (cz_Fa_58 l D b ca rfl) ⟨Nat.le_of_ble_eq_true rfl, Nat.le_of_ble_eq_true rfl⟩ ⟨Nat.le_of_ble_eq_true rfl, Nat.le_of_ble_eq_true rfl⟩ rfl rfl (Nat.le_of_ble_eq_true rfl) ?_
  refine rz_aast D b ca (i := 53) (N := 3) (t := 3) (qk := 58) (f := (va_up (fun _ => none) (Int32.toNatClampNeg 0) (some (b + 54)))) (r := (R_Fa, F_Fa, 6)) (vs := [.int 2, .int (if z = 1 then 1 else 2 : Int32), .ref (b + 1), .ref (b + 59), .ref (b + 60), .ref (b + 61)]) C (pc := 178) d_Net_init_178 (by decide) rfl rfl (by decide) rfl rfl (vp_in_iff.mpr (by decide)) ?_
  refine rx_iinc C.1 (v := 3) (pc := 179) d_Net_init_179 rfl (by decide) (by decide) ?_
  refine rx_goto C.1 (pc := 182) d_Net_init_182 (tgt := 149) rfl ?_
  refine rx_iload C.1 (pc := 149) d_Net_init_149 rfl ?_
  refine rx_iconst C.1 (v := 4) (pc := 151) d_Net_init_151 (by decide) ?_
  refine rx_icmp_ge C.1 (pc := 152) d_Net_init_152 (tgt := 185) rfl (fun h9 => absurd h9 (by decide)) (fun _ => ?_)
  refine rx_aload_n C.1 (pc := 155) d_Net_init_155 rfl ?_
  refine rz_get D b ca (i := 0) (ci := 0) (k := 4) (fs := [.ref (b + 1), .ref (b + 44), .ref (b + 45), .ref (b + 48), .ref (b + 53), .null]) (v := .ref (b + 53)) C u_Net rfl (Nat.le_of_ble_eq_true rfl) (rx_in t_251 rfl) (pc := 156) d_Net_init_156 (by decide) rfl rfl ?_
  refine rx_iload C.1 (pc := 159) d_Net_init_159 rfl ?_
  refine rx_iconst C.1 (v := 1) (pc := 161) d_Net_init_161 (by decide) ?_
  refine rx_isubv C.1 (v := 2) (pc := 162) d_Net_init_162 (by decide) ?_
  refine rz_new D b ca (ci := 5) (fs := [.int 0, .int 0, .null, .null, .null, .null]) C u_Fa t_Fa_ok rfl (rx_in t_195 rfl) (rx_in t_197 rfl) (rx_in t_6 rfl) o_Fa (pc := 163) d_Net_init_163 (Nat.le_of_ble_eq_true rfl) (Nat.le_of_ble_eq_true rfl) ?_
  refine rx_dup C.1 (pc := 166) d_Net_init_166 rfl ?_
  refine rx_iload C.1 (pc := 167) d_Net_init_167 rfl ?_
  refine rx_iload C.1 (pc := 169) d_Net_init_169 rfl ?_
  refine rx_aload_n C.1 (pc := 171) d_Net_init_171 rfl ?_
  refine rz_get D b ca (i := 0) (ci := 0) (k := 0) (fs := [.ref (b + 1), .ref (b + 44), .ref (b + 45), .ref (b + 48), .ref (b + 53), .null]) (v := .ref (b + 1)) C u_Net rfl (Nat.le_of_ble_eq_true rfl) (rx_in t_247 rfl) (pc := 172) d_Net_init_172 (by decide) rfl rfl ?_
  refine rz_callN D b ca (i := 62) (nA := 3) C w_Fa_init t_198 z_Fa_init (rx_in t_6 rfl) (by decide +kernel) rfl (pc := 175) d_Net_init_175 (cz_Fa_62 l D b ca rfl) ⟨Nat.le_of_ble_eq_true rfl, Nat.le_of_ble_eq_true rfl⟩ ⟨Nat.le_of_ble_eq_true rfl, Nat.le_of_ble_eq_true rfl⟩ rfl rfl (Nat.le_of_ble_eq_true rfl) ?_
  refine rz_aast D b ca (i := 53) (N := 3) (t := 3) (qk := 62) (f := (va_up (va_up (fun _ => none) (Int32.toNatClampNeg 0) (some (b + 54))) (Int32.toNatClampNeg 1) (some (b + 58)))) (r := (R_Fa, F_Fa, 6)) (vs := [.int 3, .int (if z = 1 then 1 else 2 : Int32), .ref (b + 1), .ref (b + 63), .ref (b + 64), .ref (b + 65)]) C (pc := 178) d_Net_init_178 (by decide) rfl rfl (by decide) rfl rfl (vp_in_iff.mpr (by decide)) ?_
  refine rx_iinc C.1 (v := 4) (pc := 179) d_Net_init_179 rfl (by decide) (by decide) ?_
  refine rx_goto C.1 (pc := 182) d_Net_init_182 (tgt := 149) rfl ?_
  refine rx_iload C.1 (pc := 149) d_Net_init_149 rfl ?_
  refine rx_iconst C.1 (v := 4) (pc := 151) d_Net_init_151 (by decide) ?_
  refine rx_icmp_ge C.1 (pc := 152) d_Net_init_152 (tgt := 185) rfl (fun _ => ?_) (fun h9 => absurd (by decide) h9)
  refine rx_aload_n C.1 (pc := 185) d_Net_init_185 rfl ?_
  refine rz_new D b ca (ci := 6) (fs := [.null, .null, .null, .null, .null]) C u_Corr t_Corr_ok rfl (rx_in t_222 rfl) (rx_in t_223 rfl) (rx_in t_7 rfl) o_Corr (pc := 186) d_Net_init_186 (Nat.le_of_ble_eq_true rfl) (Nat.le_of_ble_eq_true rfl) ?_
  refine rx_dup C.1 (pc := 189) d_Net_init_189 rfl ?_
  refine rx_aload_n C.1 (pc := 190) d_Net_init_190 rfl ?_
  refine rz_get D b ca (i := 0) (ci := 0) (k := 0) (fs := [.ref (b + 1), .ref (b + 44), .ref (b + 45), .ref (b + 48), .ref (b + 53), .null]) (v := .ref (b + 1)) C u_Net rfl (Nat.le_of_ble_eq_true rfl) (rx_in t_247 rfl) (pc := 191) d_Net_init_191 (by decide) rfl rfl ?_
  refine rz_callN D b ca (i := 66) (nA := 1) C w_Corr_init t_224 z_Corr_init (rx_in t_7 rfl) (by decide +kernel) rfl (pc := 194) d_Net_init_194 (cz_Corr_66 l D b ca rfl) ⟨Nat.le_of_ble_eq_true rfl, Nat.le_of_ble_eq_true rfl⟩ ⟨Nat.le_of_ble_eq_true rfl, Nat.le_of_ble_eq_true rfl⟩ rfl rfl (Nat.le_of_ble_eq_true rfl) ?_
  refine rz_putF D b ca (i := 0) (ci := 0) (k := 5) (fs := [.ref (b + 1), .ref (b + 44), .ref (b + 45), .ref (b + 48), .ref (b + 53), .null]) (v := .ref (b + 66)) (ty := (.object "RoamingNet$Correspondent")) C u_Net t_Net_ok n_Net rfl (Nat.le_of_ble_eq_true rfl) (rx_in t_252 rfl) rfl rfl (by decide +kernel) rfl rfl (pc := 197) d_Net_init_197 hin2 (by decide) rfl (Nat.le_of_ble_eq_true rfl) ?_
  exact rz_retE D b ca C (pc := 200) d_Net_init_200 (by first | rfl | (unfold fz_Net_0; rfl))
