theorem o_Net : ∀ j, j < 6 → defaultValue (t_Net j) = vp_V [.null, .null, .null, .null, .null, .null] j := by
  intro j hj
  match j, hj with
  | 0, _ => rfl
  | 1, _ => rfl
  | 2, _ => rfl
  | 3, _ => rfl
  | 4, _ => rfl
  | 5, _ => rfl
  | j + 6, hj => omega
theorem o_Msg : ∀ j, j < 9 → defaultValue (t_Msg j) = vp_V [.int 0, .int 0, .int 0, .int 0, .int 0, .int 0, .int 0, .int 0, .int 0] j := by
  intro j hj
  match j, hj with
  | 0, _ => rfl
  | 1, _ => rfl
  | 2, _ => rfl
  | 3, _ => rfl
  | 4, _ => rfl
  | 5, _ => rfl
  | 6, _ => rfl
  | 7, _ => rfl
  | 8, _ => rfl
  | j + 9, hj => omega
theorem o_Wire : ∀ j, j < 3 → defaultValue (t_Wire j) = vp_V [.null, .int 0, .int 0] j := by
  intro j hj
  match j, hj with
  | 0, _ => rfl
  | 1, _ => rfl
  | 2, _ => rfl
  | j + 3, hj => omega
theorem o_Mob : ∀ j, j < 14 → defaultValue (t_Mob j) = vp_V [.int 0, .int 0, .null, .int 0, .int 0, .int 0, .int 0, .int 0, .int 0, .int 0, .int 0, .int 0, .int 0, .int 0] j := by
  intro j hj
  match j, hj with
  | 0, _ => rfl
  | 1, _ => rfl
  | 2, _ => rfl
  | 3, _ => rfl
  | 4, _ => rfl
  | 5, _ => rfl
  | 6, _ => rfl
  | 7, _ => rfl
  | 8, _ => rfl
  | 9, _ => rfl
  | 10, _ => rfl
  | 11, _ => rfl
  | 12, _ => rfl
  | 13, _ => rfl
  | j + 14, hj => omega
theorem o_Home : ∀ j, j < 6 → defaultValue (t_Home j) = vp_V [.int 0, .null, .null, .null, .null, .null] j := by
  intro j hj
  match j, hj with
  | 0, _ => rfl
  | 1, _ => rfl
  | 2, _ => rfl
  | 3, _ => rfl
  | 4, _ => rfl
  | 5, _ => rfl
  | j + 6, hj => omega
theorem o_Fa : ∀ j, j < 6 → defaultValue (t_Fa j) = vp_V [.int 0, .int 0, .null, .null, .null, .null] j := by
  intro j hj
  match j, hj with
  | 0, _ => rfl
  | 1, _ => rfl
  | 2, _ => rfl
  | 3, _ => rfl
  | 4, _ => rfl
  | 5, _ => rfl
  | j + 6, hj => omega
theorem o_Corr : ∀ j, j < 5 → defaultValue (t_Corr j) = vp_V [.null, .null, .null, .null, .null] j := by
  intro j hj
  match j, hj with
  | 0, _ => rfl
  | 1, _ => rfl
  | 2, _ => rfl
  | 3, _ => rfl
  | 4, _ => rfl
  | j + 5, hj => omega
theorem o_Mod : ∀ j, j < 29 → defaultValue (t_Mod j) = vp_V [.int 0, .int 0, .int 0, .int 0, .int 0, .null, .null, .null, .null, .null, .null, .null, .null, .null, .null, .null, .null, .null, .null, .null, .null, .null, .null, .null, .null, .null, .null, .null, .null] j := by
  intro j hj
  match j, hj with
  | 0, _ => rfl
  | 1, _ => rfl
  | 2, _ => rfl
  | 3, _ => rfl
  | 4, _ => rfl
  | 5, _ => rfl
  | 6, _ => rfl
  | 7, _ => rfl
  | 8, _ => rfl
  | 9, _ => rfl
  | 10, _ => rfl
  | 11, _ => rfl
  | 12, _ => rfl
  | 13, _ => rfl
  | 14, _ => rfl
  | 15, _ => rfl
  | 16, _ => rfl
  | 17, _ => rfl
  | 18, _ => rfl
  | 19, _ => rfl
  | 20, _ => rfl
  | 21, _ => rfl
  | 22, _ => rfl
  | 23, _ => rfl
  | 24, _ => rfl
  | 25, _ => rfl
  | 26, _ => rfl
  | 27, _ => rfl
  | 28, _ => rfl
  | j + 29, hj => omega
def fz_Mob_46 (b : Nat) (ca : Nat → ClassId) (F : Nat → va_E) (x lf : Int32) : Nat → va_E := let f1 := va_up F 46 (.inr (3, [.int x, .int 0, .null, .int 0, .int 0, .int 0, .int 0, .int 0, .int 0, .int 0, .int 0, .int 0, .int 0, .int 0])); let f2 := va_up f1 46 (.inr (3, [.int x, .int lf, .null, .int 0, .int 0, .int 0, .int 0, .int 0, .int 0, .int 0, .int 0, .int 0, .int 0, .int 0])); let f3 := va_up f2 46 (.inr (3, [.int x, .int lf, .ref (b + 1), .int 0, .int 0, .int 0, .int 0, .int 0, .int 0, .int 0, .int 0, .int 0, .int 0, .int 0])); let f4 := va_up f3 46 (.inr (3, [.int x, .int lf, .ref (b + 1), .int 0, .int 0, .int 0, .int 0, .int 0, .int 0, .int 0, .int 0, .int 0, .int 0, .int 0])); let f5 := va_up f4 46 (.inr (3, [.int x, .int lf, .ref (b + 1), .int 0, .int 0, .int 0, .int 0, .int 2147483647, .int 0, .int 0, .int 0, .int 0, .int 0, .int 0])); let f6 := va_up f5 46 (.inr (3, [.int x, .int lf, .ref (b + 1), .int 0, .int 0, .int 0, .int 0, .int 2147483647, .int (-1), .int 0, .int 0, .int 0, .int 0, .int 0])); f6
set_option maxHeartbeats 4000000 in
set_option maxRecDepth 100000 in
theorem cz_Mob_46 (l : Launch) (D : va_G) (b : Nat) (ca : Nat → ClassId) {F : Nat → va_E} {x lf : Int32} (hF : F 46 = .inr (3, [.int 0, .int 0, .null, .int 0, .int 0, .int 0, .int 0, .int 0, .int 0, .int 0, .int 0, .int 0, .int 0, .int 0])) : rz_C l D b ca y_Mob_init b_Mob_init 4 (rz_rm 1 0 0) [.ref (b + 46), .int x, .int lf, .ref (b + 1)] 47 F 47 (fz_Mob_46 b ca F x lf) 0 0 := by
  refine rz_of D b ca (lo := [(0, .ref (b + 46)), (1, .int x), (2, .int lf), (3, .ref (b + 1))]) (by decide) rfl rfl (Nat.le_of_ble_eq_true rfl) rfl ?_
  intro p e s mm below meth c C hin2 hb0
  refine rx_aload_n C.1 (pc := 0) d_Mob_init_0 rfl ?_
  refine rz_obj C.1 (rx_in t_116 rfl) (rx_in t_16 rfl) (rx_in t_17 rfl) (pc := 1) d_Mob_init_1 (Nat.le_of_ble_eq_true rfl) (Nat.le_of_ble_eq_true rfl) ?_
  refine rx_aload_n C.1 (pc := 4) d_Mob_init_4 rfl ?_
  refine rx_iload_n C.1 (pc := 5) d_Mob_init_5 rfl ?_
  refine rz_putF D b ca (i := 46) (ci := 3) (k := 0) (fs := [.int 0, .int 0, .null, .int 0, .int 0, .int 0, .int 0, .int 0, .int 0, .int 0, .int 0, .int 0, .int 0, .int 0]) (v := .int x) (ty := .int) C u_Mob t_Mob_ok n_Mob rfl (Nat.le_of_ble_eq_true rfl) (rx_in t_118 rfl) rfl rfl (by decide +kernel) rfl rfl (pc := 6) d_Mob_init_6 hin2 (by decide) hF (Nat.le_of_ble_eq_true rfl) ?_
  refine rx_aload_n C.1 (pc := 9) d_Mob_init_9 rfl ?_
  refine rx_iload_n C.1 (pc := 10) d_Mob_init_10 rfl ?_
  refine rz_putF D b ca (i := 46) (ci := 3) (k := 1) (fs := [.int x, .int 0, .null, .int 0, .int 0, .int 0, .int 0, .int 0, .int 0, .int 0, .int 0, .int 0, .int 0, .int 0]) (v := .int lf) (ty := .int) C u_Mob t_Mob_ok n_Mob rfl (Nat.le_of_ble_eq_true rfl) (rx_in t_119 rfl) rfl rfl (by decide +kernel) rfl rfl (pc := 11) d_Mob_init_11 hin2 (by decide) rfl (Nat.le_of_ble_eq_true rfl) ?_
  refine rx_aload_n C.1 (pc := 14) d_Mob_init_14 rfl ?_
  refine rx_aload_n C.1 (pc := 15) d_Mob_init_15 rfl ?_
  refine rz_putF D b ca (i := 46) (ci := 3) (k := 2) (fs := [.int x, .int lf, .null, .int 0, .int 0, .int 0, .int 0, .int 0, .int 0, .int 0, .int 0, .int 0, .int 0, .int 0]) (v := .ref (b + 1)) (ty := (.object "RoamingNet$Wire")) C u_Mob t_Mob_ok n_Mob rfl (Nat.le_of_ble_eq_true rfl) (rx_in t_120 rfl) rfl rfl (by decide +kernel) rfl rfl (pc := 16) d_Mob_init_16 hin2 (by decide) rfl (Nat.le_of_ble_eq_true rfl) ?_
  refine rx_aload_n C.1 (pc := 19) d_Mob_init_19 rfl ?_
  refine rx_iconst C.1 (v := 0) (pc := 20) d_Mob_init_20 (by decide) ?_
  refine rz_put D b ca (i := 46) (ci := 3) (k := 6) (fs := [.int x, .int lf, .ref (b + 1), .int 0, .int 0, .int 0, .int 0, .int 0, .int 0, .int 0, .int 0, .int 0, .int 0, .int 0]) (v := .int 0) (ty := .int) C u_Mob t_Mob_ok n_Mob rfl (Nat.le_of_ble_eq_true rfl) (rx_in t_126 rfl) rfl (by decide +kernel) rfl rfl (pc := 21) d_Mob_init_21 (by decide) rfl (Nat.le_of_ble_eq_true rfl) ?_
  refine rx_aload_n C.1 (pc := 24) d_Mob_init_24 rfl ?_
  refine rx_ldc C.1 (v := 2147483647) k_Mob_25 (pc := 25) d_Mob_init_25 ?_
  refine rz_put D b ca (i := 46) (ci := 3) (k := 7) (fs := [.int x, .int lf, .ref (b + 1), .int 0, .int 0, .int 0, .int 0, .int 0, .int 0, .int 0, .int 0, .int 0, .int 0, .int 0]) (v := .int 2147483647) (ty := .int) C u_Mob t_Mob_ok n_Mob rfl (Nat.le_of_ble_eq_true rfl) (rx_in t_128 rfl) rfl (by decide +kernel) rfl rfl (pc := 27) d_Mob_init_27 (by decide) rfl (Nat.le_of_ble_eq_true rfl) ?_
  refine rx_aload_n C.1 (pc := 30) d_Mob_init_30 rfl ?_
  refine rx_iconst C.1 (v := (-1)) (pc := 31) d_Mob_init_31 (by decide) ?_
  refine rz_put D b ca (i := 46) (ci := 3) (k := 8) (fs := [.int x, .int lf, .ref (b + 1), .int 0, .int 0, .int 0, .int 0, .int 2147483647, .int 0, .int 0, .int 0, .int 0, .int 0, .int 0]) (v := .int (-1)) (ty := .int) C u_Mob t_Mob_ok n_Mob rfl (Nat.le_of_ble_eq_true rfl) (rx_in t_129 rfl) rfl (by decide +kernel) rfl rfl (pc := 32) d_Mob_init_32 (by decide) rfl (Nat.le_of_ble_eq_true rfl) ?_
  exact rz_retE D b ca C (pc := 35) d_Mob_init_35 (by first | rfl | (unfold fz_Mob_46; rfl))
def fz_Mob_47 (b : Nat) (ca : Nat → ClassId) (F : Nat → va_E) (x lf : Int32) : Nat → va_E := let f1 := va_up F 47 (.inr (3, [.int x, .int 0, .null, .int 0, .int 0, .int 0, .int 0, .int 0, .int 0, .int 0, .int 0, .int 0, .int 0, .int 0])); let f2 := va_up f1 47 (.inr (3, [.int x, .int lf, .null, .int 0, .int 0, .int 0, .int 0, .int 0, .int 0, .int 0, .int 0, .int 0, .int 0, .int 0])); let f3 := va_up f2 47 (.inr (3, [.int x, .int lf, .ref (b + 1), .int 0, .int 0, .int 0, .int 0, .int 0, .int 0, .int 0, .int 0, .int 0, .int 0, .int 0])); let f4 := va_up f3 47 (.inr (3, [.int x, .int lf, .ref (b + 1), .int 0, .int 0, .int 0, .int 0, .int 0, .int 0, .int 0, .int 0, .int 0, .int 0, .int 0])); let f5 := va_up f4 47 (.inr (3, [.int x, .int lf, .ref (b + 1), .int 0, .int 0, .int 0, .int 0, .int 2147483647, .int 0, .int 0, .int 0, .int 0, .int 0, .int 0])); let f6 := va_up f5 47 (.inr (3, [.int x, .int lf, .ref (b + 1), .int 0, .int 0, .int 0, .int 0, .int 2147483647, .int (-1), .int 0, .int 0, .int 0, .int 0, .int 0])); f6
set_option maxHeartbeats 4000000 in
set_option maxRecDepth 100000 in
theorem cz_Mob_47 (l : Launch) (D : va_G) (b : Nat) (ca : Nat → ClassId) {F : Nat → va_E} {x lf : Int32} (hF : F 47 = .inr (3, [.int 0, .int 0, .null, .int 0, .int 0, .int 0, .int 0, .int 0, .int 0, .int 0, .int 0, .int 0, .int 0, .int 0])) : rz_C l D b ca y_Mob_init b_Mob_init 4 (rz_rm 1 0 0) [.ref (b + 47), .int x, .int lf, .ref (b + 1)] 48 F 48 (fz_Mob_47 b ca F x lf) 0 0 := by
  refine rz_of D b ca (lo := [(0, .ref (b + 47)), (1, .int x), (2, .int lf), (3, .ref (b + 1))]) (by decide) rfl rfl (Nat.le_of_ble_eq_true rfl) rfl ?_
  intro p e s mm below meth c C hin2 hb0
  refine rx_aload_n C.1 (pc := 0) d_Mob_init_0 rfl ?_
  refine rz_obj C.1 (rx_in t_116 rfl) (rx_in t_16 rfl) (rx_in t_17 rfl) (pc := 1) d_Mob_init_1 (Nat.le_of_ble_eq_true rfl) (Nat.le_of_ble_eq_true rfl) ?_
  refine rx_aload_n C.1 (pc := 4) d_Mob_init_4 rfl ?_
  refine rx_iload_n C.1 (pc := 5) d_Mob_init_5 rfl ?_
  refine rz_putF D b ca (i := 47) (ci := 3) (k := 0) (fs := [.int 0, .int 0, .null, .int 0, .int 0, .int 0, .int 0, .int 0, .int 0, .int 0, .int 0, .int 0, .int 0, .int 0]) (v := .int x) (ty := .int) C u_Mob t_Mob_ok n_Mob rfl (Nat.le_of_ble_eq_true rfl) (rx_in t_118 rfl) rfl rfl (by decide +kernel) rfl rfl (pc := 6) d_Mob_init_6 hin2 (by decide) hF (Nat.le_of_ble_eq_true rfl) ?_
  refine rx_aload_n C.1 (pc := 9) d_Mob_init_9 rfl ?_
  refine rx_iload_n C.1 (pc := 10) d_Mob_init_10 rfl ?_
  refine rz_putF D b ca (i := 47) (ci := 3) (k := 1) (fs := [.int x, .int 0, .null, .int 0, .int 0, .int 0, .int 0, .int 0, .int 0, .int 0, .int 0, .int 0, .int 0, .int 0]) (v := .int lf) (ty := .int) C u_Mob t_Mob_ok n_Mob rfl (Nat.le_of_ble_eq_true rfl) (rx_in t_119 rfl) rfl rfl (by decide +kernel) rfl rfl (pc := 11) d_Mob_init_11 hin2 (by decide) rfl (Nat.le_of_ble_eq_true rfl) ?_
  refine rx_aload_n C.1 (pc := 14) d_Mob_init_14 rfl ?_
  refine rx_aload_n C.1 (pc := 15) d_Mob_init_15 rfl ?_
  refine rz_putF D b ca (i := 47) (ci := 3) (k := 2) (fs := [.int x, .int lf, .null, .int 0, .int 0, .int 0, .int 0, .int 0, .int 0, .int 0, .int 0, .int 0, .int 0, .int 0]) (v := .ref (b + 1)) (ty := (.object "RoamingNet$Wire")) C u_Mob t_Mob_ok n_Mob rfl (Nat.le_of_ble_eq_true rfl) (rx_in t_120 rfl) rfl rfl (by decide +kernel) rfl rfl (pc := 16) d_Mob_init_16 hin2 (by decide) rfl (Nat.le_of_ble_eq_true rfl) ?_
  refine rx_aload_n C.1 (pc := 19) d_Mob_init_19 rfl ?_
  refine rx_iconst C.1 (v := 0) (pc := 20) d_Mob_init_20 (by decide) ?_
  refine rz_put D b ca (i := 47) (ci := 3) (k := 6) (fs := [.int x, .int lf, .ref (b + 1), .int 0, .int 0, .int 0, .int 0, .int 0, .int 0, .int 0, .int 0, .int 0, .int 0, .int 0]) (v := .int 0) (ty := .int) C u_Mob t_Mob_ok n_Mob rfl (Nat.le_of_ble_eq_true rfl) (rx_in t_126 rfl) rfl (by decide +kernel) rfl rfl (pc := 21) d_Mob_init_21 (by decide) rfl (Nat.le_of_ble_eq_true rfl) ?_
  refine rx_aload_n C.1 (pc := 24) d_Mob_init_24 rfl ?_
  refine rx_ldc C.1 (v := 2147483647) k_Mob_25 (pc := 25) d_Mob_init_25 ?_
  refine rz_put D b ca (i := 47) (ci := 3) (k := 7) (fs := [.int x, .int lf, .ref (b + 1), .int 0, .int 0, .int 0, .int 0, .int 0, .int 0, .int 0, .int 0, .int 0, .int 0, .int 0]) (v := .int 2147483647) (ty := .int) C u_Mob t_Mob_ok n_Mob rfl (Nat.le_of_ble_eq_true rfl) (rx_in t_128 rfl) rfl (by decide +kernel) rfl rfl (pc := 27) d_Mob_init_27 (by decide) rfl (Nat.le_of_ble_eq_true rfl) ?_
  refine rx_aload_n C.1 (pc := 30) d_Mob_init_30 rfl ?_
  refine rx_iconst C.1 (v := (-1)) (pc := 31) d_Mob_init_31 (by decide) ?_
  refine rz_put D b ca (i := 47) (ci := 3) (k := 8) (fs := [.int x, .int lf, .ref (b + 1), .int 0, .int 0, .int 0, .int 0, .int 2147483647, .int 0, .int 0, .int 0, .int 0, .int 0, .int 0]) (v := .int (-1)) (ty := .int) C u_Mob t_Mob_ok n_Mob rfl (Nat.le_of_ble_eq_true rfl) (rx_in t_129 rfl) rfl (by decide +kernel) rfl rfl (pc := 32) d_Mob_init_32 (by decide) rfl (Nat.le_of_ble_eq_true rfl) ?_
  exact rz_retE D b ca C (pc := 35) d_Mob_init_35 (by first | rfl | (unfold fz_Mob_47; rfl))
def fz_Home_48 (b : Nat) (ca : Nat → ClassId) (F : Nat → va_E) (lm : Int32) : Nat → va_E := let f1 := va_up F 48 (.inr (4, [.int lm, .null, .null, .null, .null, .null])); let f2 := va_up f1 48 (.inr (4, [.int lm, .ref (b + 1), .null, .null, .null, .null])); let f3 := va_up f2 49 (.inl (ca 0, 2, .inl (fun _ => 0))); let f4 := va_up f3 48 (.inr (4, [.int lm, .ref (b + 1), .ref (b + 49), .null, .null, .null])); let f5 := va_up f4 50 (.inl (ca 0, 2, .inl (fun _ => 0))); let f6 := va_up f5 48 (.inr (4, [.int lm, .ref (b + 1), .ref (b + 49), .ref (b + 50), .null, .null])); let f7 := va_up f6 51 (.inl (ca 0, 2, .inl (fun _ => 0))); let f8 := va_up f7 48 (.inr (4, [.int lm, .ref (b + 1), .ref (b + 49), .ref (b + 50), .ref (b + 51), .null])); let f9 := va_up f8 52 (.inl (ca 0, 2, .inl (fun _ => 0))); let f10 := va_up f9 48 (.inr (4, [.int lm, .ref (b + 1), .ref (b + 49), .ref (b + 50), .ref (b + 51), .ref (b + 52)])); f10
set_option maxHeartbeats 4000000 in
set_option maxRecDepth 100000 in
theorem cz_Home_48 (l : Launch) (D : va_G) (b : Nat) (ca : Nat → ClassId) {F : Nat → va_E} {lm : Int32} (hF : F 48 = .inr (4, [.int 0, .null, .null, .null, .null, .null])) : rz_C l D b ca y_Home_init b_Home_init 3 (rz_rm 1 4 8) [.ref (b + 48), .int lm, .ref (b + 1)] 49 F 53 (fz_Home_48 b ca F lm) 4 8 := by
  refine rz_of D b ca (lo := [(0, .ref (b + 48)), (1, .int lm), (2, .ref (b + 1))]) (by decide) rfl rfl (Nat.le_of_ble_eq_true rfl) rfl ?_
  intro p e s mm below meth c C hin2 hb0
  refine rx_aload_n C.1 (pc := 0) d_Home_init_0 rfl ?_
  refine rz_obj C.1 (rx_in t_171 rfl) (rx_in t_16 rfl) (rx_in t_17 rfl) (pc := 1) d_Home_init_1 (Nat.le_of_ble_eq_true rfl) (Nat.le_of_ble_eq_true rfl) ?_
  refine rx_aload_n C.1 (pc := 4) d_Home_init_4 rfl ?_
  refine rx_iload_n C.1 (pc := 5) d_Home_init_5 rfl ?_
  refine rz_putF D b ca (i := 48) (ci := 4) (k := 0) (fs := [.int 0, .null, .null, .null, .null, .null]) (v := .int lm) (ty := .int) C u_Home t_Home_ok n_Home rfl (Nat.le_of_ble_eq_true rfl) (rx_in t_172 rfl) rfl rfl (by decide +kernel) rfl rfl (pc := 6) d_Home_init_6 hin2 (by decide) hF (Nat.le_of_ble_eq_true rfl) ?_
  refine rx_aload_n C.1 (pc := 9) d_Home_init_9 rfl ?_
  refine rx_aload_n C.1 (pc := 10) d_Home_init_10 rfl ?_
  refine rz_putF D b ca (i := 48) (ci := 4) (k := 1) (fs := [.int lm, .null, .null, .null, .null, .null]) (v := .ref (b + 1)) (ty := (.object "RoamingNet$Wire")) C u_Home t_Home_ok n_Home rfl (Nat.le_of_ble_eq_true rfl) (rx_in t_173 rfl) rfl rfl (by decide +kernel) rfl rfl (pc := 11) d_Home_init_11 hin2 (by decide) rfl (Nat.le_of_ble_eq_true rfl) ?_
  refine rx_aload_n C.1 (pc := 14) d_Home_init_14 rfl ?_
  refine rx_iconst C.1 (v := 2) (pc := 15) d_Home_init_15 (by decide) ?_
  refine rz_newa D b ca (N := 2) C (rx_in t_194 rfl) (pc := 16) d_Home_init_16 (by decide) rfl (by decide) (Nat.le_of_ble_eq_true rfl) (Nat.le_of_ble_eq_true rfl) ?_
  refine rz_putF D b ca (i := 48) (ci := 4) (k := 2) (fs := [.int lm, .ref (b + 1), .null, .null, .null, .null]) (v := .ref (b + 49)) (ty := (.array .int)) C u_Home t_Home_ok n_Home rfl (Nat.le_of_ble_eq_true rfl) (rx_in t_174 rfl) rfl rfl (by decide +kernel) rfl rfl (pc := 18) d_Home_init_18 hin2 (by decide) rfl (Nat.le_of_ble_eq_true rfl) ?_
  refine rx_aload_n C.1 (pc := 21) d_Home_init_21 rfl ?_
  refine rx_iconst C.1 (v := 2) (pc := 22) d_Home_init_22 (by decide) ?_
  refine rz_newa D b ca (N := 2) C (rx_in t_194 rfl) (pc := 23) d_Home_init_23 (by decide) rfl (by decide) (Nat.le_of_ble_eq_true rfl) (Nat.le_of_ble_eq_true rfl) ?_
  refine rz_putF D b ca (i := 48) (ci := 4) (k := 3) (fs := [.int lm, .ref (b + 1), .ref (b + 49), .null, .null, .null]) (v := .ref (b + 50)) (ty := (.array .int)) C u_Home t_Home_ok n_Home rfl (Nat.le_of_ble_eq_true rfl) (rx_in t_176 rfl) rfl rfl (by decide +kernel) rfl rfl (pc := 25) d_Home_init_25 hin2 (by decide) rfl (Nat.le_of_ble_eq_true rfl) ?_
  refine rx_aload_n C.1 (pc := 28) d_Home_init_28 rfl ?_
  refine rx_iconst C.1 (v := 2) (pc := 29) d_Home_init_29 (by decide) ?_
  refine rz_newa D b ca (N := 2) C (rx_in t_194 rfl) (pc := 30) d_Home_init_30 (by decide) rfl (by decide) (Nat.le_of_ble_eq_true rfl) (Nat.le_of_ble_eq_true rfl) ?_
  refine rz_putF D b ca (i := 48) (ci := 4) (k := 4) (fs := [.int lm, .ref (b + 1), .ref (b + 49), .ref (b + 50), .null, .null]) (v := .ref (b + 51)) (ty := (.array .int)) C u_Home t_Home_ok n_Home rfl (Nat.le_of_ble_eq_true rfl) (rx_in t_177 rfl) rfl rfl (by decide +kernel) rfl rfl (pc := 32) d_Home_init_32 hin2 (by decide) rfl (Nat.le_of_ble_eq_true rfl) ?_
  refine rx_aload_n C.1 (pc := 35) d_Home_init_35 rfl ?_
  refine rx_iconst C.1 (v := 2) (pc := 36) d_Home_init_36 (by decide) ?_
  refine rz_newa D b ca (N := 2) C (rx_in t_194 rfl) (pc := 37) d_Home_init_37 (by decide) rfl (by decide) (Nat.le_of_ble_eq_true rfl) (Nat.le_of_ble_eq_true rfl) ?_
  refine rz_putF D b ca (i := 48) (ci := 4) (k := 5) (fs := [.int lm, .ref (b + 1), .ref (b + 49), .ref (b + 50), .ref (b + 51), .null]) (v := .ref (b + 52)) (ty := (.array .int)) C u_Home t_Home_ok n_Home rfl (Nat.le_of_ble_eq_true rfl) (rx_in t_179 rfl) rfl rfl (by decide +kernel) rfl rfl (pc := 39) d_Home_init_39 hin2 (by decide) rfl (Nat.le_of_ble_eq_true rfl) ?_
  exact rz_retE D b ca C (pc := 42) d_Home_init_42 (by first | rfl | (unfold fz_Home_48; rfl))
def fz_Fa_54 (b : Nat) (ca : Nat → ClassId) (F : Nat → va_E) (x pl : Int32) : Nat → va_E := let f1 := va_up F 54 (.inr (5, [.int x, .int 0, .null, .null, .null, .null])); let f2 := va_up f1 54 (.inr (5, [.int x, .int pl, .null, .null, .null, .null])); let f3 := va_up f2 54 (.inr (5, [.int x, .int pl, .ref (b + 1), .null, .null, .null])); let f4 := va_up f3 55 (.inl (ca 0, 2, .inl (fun _ => 0))); let f5 := va_up f4 54 (.inr (5, [.int x, .int pl, .ref (b + 1), .ref (b + 55), .null, .null])); let f6 := va_up f5 56 (.inl (ca 0, 2, .inl (fun _ => 0))); let f7 := va_up f6 54 (.inr (5, [.int x, .int pl, .ref (b + 1), .ref (b + 55), .ref (b + 56), .null])); let f8 := va_up f7 57 (.inl (ca 0, 2, .inl (fun _ => 0))); let f9 := va_up f8 54 (.inr (5, [.int x, .int pl, .ref (b + 1), .ref (b + 55), .ref (b + 56), .ref (b + 57)])); f9
set_option maxHeartbeats 4000000 in
set_option maxRecDepth 100000 in
theorem cz_Fa_54 (l : Launch) (D : va_G) (b : Nat) (ca : Nat → ClassId) {F : Nat → va_E} {x pl : Int32} (hF : F 54 = .inr (5, [.int 0, .int 0, .null, .null, .null, .null])) : rz_C l D b ca y_Fa_init b_Fa_init 4 (rz_rm 1 3 6) [.ref (b + 54), .int x, .int pl, .ref (b + 1)] 55 F 58 (fz_Fa_54 b ca F x pl) 3 6 := by
  refine rz_of D b ca (lo := [(0, .ref (b + 54)), (1, .int x), (2, .int pl), (3, .ref (b + 1))]) (by decide) rfl rfl (Nat.le_of_ble_eq_true rfl) rfl ?_
  intro p e s mm below meth c C hin2 hb0
  refine rx_aload_n C.1 (pc := 0) d_Fa_init_0 rfl ?_
  refine rz_obj C.1 (rx_in t_201 rfl) (rx_in t_16 rfl) (rx_in t_17 rfl) (pc := 1) d_Fa_init_1 (Nat.le_of_ble_eq_true rfl) (Nat.le_of_ble_eq_true rfl) ?_
  refine rx_aload_n C.1 (pc := 4) d_Fa_init_4 rfl ?_
  refine rx_iload_n C.1 (pc := 5) d_Fa_init_5 rfl ?_
  refine rz_putF D b ca (i := 54) (ci := 5) (k := 0) (fs := [.int 0, .int 0, .null, .null, .null, .null]) (v := .int x) (ty := .int) C u_Fa t_Fa_ok n_Fa rfl (Nat.le_of_ble_eq_true rfl) (rx_in t_202 rfl) rfl rfl (by decide +kernel) rfl rfl (pc := 6) d_Fa_init_6 hin2 (by decide) hF (Nat.le_of_ble_eq_true rfl) ?_
  refine rx_aload_n C.1 (pc := 9) d_Fa_init_9 rfl ?_
  refine rx_iload_n C.1 (pc := 10) d_Fa_init_10 rfl ?_
  refine rz_putF D b ca (i := 54) (ci := 5) (k := 1) (fs := [.int x, .int 0, .null, .null, .null, .null]) (v := .int pl) (ty := .int) C u_Fa t_Fa_ok n_Fa rfl (Nat.le_of_ble_eq_true rfl) (rx_in t_203 rfl) rfl rfl (by decide +kernel) rfl rfl (pc := 11) d_Fa_init_11 hin2 (by decide) rfl (Nat.le_of_ble_eq_true rfl) ?_
  refine rx_aload_n C.1 (pc := 14) d_Fa_init_14 rfl ?_
  refine rx_aload_n C.1 (pc := 15) d_Fa_init_15 rfl ?_
  refine rz_putF D b ca (i := 54) (ci := 5) (k := 2) (fs := [.int x, .int pl, .null, .null, .null, .null]) (v := .ref (b + 1)) (ty := (.object "RoamingNet$Wire")) C u_Fa t_Fa_ok n_Fa rfl (Nat.le_of_ble_eq_true rfl) (rx_in t_204 rfl) rfl rfl (by decide +kernel) rfl rfl (pc := 16) d_Fa_init_16 hin2 (by decide) rfl (Nat.le_of_ble_eq_true rfl) ?_
  refine rx_aload_n C.1 (pc := 19) d_Fa_init_19 rfl ?_
  refine rx_iconst C.1 (v := 2) (pc := 20) d_Fa_init_20 (by decide) ?_
  refine rz_newa D b ca (N := 2) C (rx_in t_194 rfl) (pc := 21) d_Fa_init_21 (by decide) rfl (by decide) (Nat.le_of_ble_eq_true rfl) (Nat.le_of_ble_eq_true rfl) ?_
  refine rz_putF D b ca (i := 54) (ci := 5) (k := 3) (fs := [.int x, .int pl, .ref (b + 1), .null, .null, .null]) (v := .ref (b + 55)) (ty := (.array .int)) C u_Fa t_Fa_ok n_Fa rfl (Nat.le_of_ble_eq_true rfl) (rx_in t_205 rfl) rfl rfl (by decide +kernel) rfl rfl (pc := 23) d_Fa_init_23 hin2 (by decide) rfl (Nat.le_of_ble_eq_true rfl) ?_
  refine rx_aload_n C.1 (pc := 26) d_Fa_init_26 rfl ?_
  refine rx_iconst C.1 (v := 2) (pc := 27) d_Fa_init_27 (by decide) ?_
  refine rz_newa D b ca (N := 2) C (rx_in t_194 rfl) (pc := 28) d_Fa_init_28 (by decide) rfl (by decide) (Nat.le_of_ble_eq_true rfl) (Nat.le_of_ble_eq_true rfl) ?_
  refine rz_putF D b ca (i := 54) (ci := 5) (k := 4) (fs := [.int x, .int pl, .ref (b + 1), .ref (b + 55), .null, .null]) (v := .ref (b + 56)) (ty := (.array .int)) C u_Fa t_Fa_ok n_Fa rfl (Nat.le_of_ble_eq_true rfl) (rx_in t_207 rfl) rfl rfl (by decide +kernel) rfl rfl (pc := 30) d_Fa_init_30 hin2 (by decide) rfl (Nat.le_of_ble_eq_true rfl) ?_
  refine rx_aload_n C.1 (pc := 33) d_Fa_init_33 rfl ?_
  refine rx_iconst C.1 (v := 2) (pc := 34) d_Fa_init_34 (by decide) ?_
  refine rz_newa D b ca (N := 2) C (rx_in t_194 rfl) (pc := 35) d_Fa_init_35 (by decide) rfl (by decide) (Nat.le_of_ble_eq_true rfl) (Nat.le_of_ble_eq_true rfl) ?_
  refine rz_putF D b ca (i := 54) (ci := 5) (k := 5) (fs := [.int x, .int pl, .ref (b + 1), .ref (b + 55), .ref (b + 56), .null]) (v := .ref (b + 57)) (ty := (.array .int)) C u_Fa t_Fa_ok n_Fa rfl (Nat.le_of_ble_eq_true rfl) (rx_in t_208 rfl) rfl rfl (by decide +kernel) rfl rfl (pc := 37) d_Fa_init_37 hin2 (by decide) rfl (Nat.le_of_ble_eq_true rfl) ?_
  exact rz_retE D b ca C (pc := 40) d_Fa_init_40 (by first | rfl | (unfold fz_Fa_54; rfl))
def fz_Fa_58 (b : Nat) (ca : Nat → ClassId) (F : Nat → va_E) (x pl : Int32) : Nat → va_E := let f1 := va_up F 58 (.inr (5, [.int x, .int 0, .null, .null, .null, .null])); let f2 := va_up f1 58 (.inr (5, [.int x, .int pl, .null, .null, .null, .null])); let f3 := va_up f2 58 (.inr (5, [.int x, .int pl, .ref (b + 1), .null, .null, .null])); let f4 := va_up f3 59 (.inl (ca 0, 2, .inl (fun _ => 0))); let f5 := va_up f4 58 (.inr (5, [.int x, .int pl, .ref (b + 1), .ref (b + 59), .null, .null])); let f6 := va_up f5 60 (.inl (ca 0, 2, .inl (fun _ => 0))); let f7 := va_up f6 58 (.inr (5, [.int x, .int pl, .ref (b + 1), .ref (b + 59), .ref (b + 60), .null])); let f8 := va_up f7 61 (.inl (ca 0, 2, .inl (fun _ => 0))); let f9 := va_up f8 58 (.inr (5, [.int x, .int pl, .ref (b + 1), .ref (b + 59), .ref (b + 60), .ref (b + 61)])); f9
set_option maxHeartbeats 4000000 in
set_option maxRecDepth 100000 in
theorem cz_Fa_58 (l : Launch) (D : va_G) (b : Nat) (ca : Nat → ClassId) {F : Nat → va_E} {x pl : Int32} (hF : F 58 = .inr (5, [.int 0, .int 0, .null, .null, .null, .null])) : rz_C l D b ca y_Fa_init b_Fa_init 4 (rz_rm 1 3 6) [.ref (b + 58), .int x, .int pl, .ref (b + 1)] 59 F 62 (fz_Fa_58 b ca F x pl) 3 6 := by
  refine rz_of D b ca (lo := [(0, .ref (b + 58)), (1, .int x), (2, .int pl), (3, .ref (b + 1))]) (by decide) rfl rfl (Nat.le_of_ble_eq_true rfl) rfl ?_
  intro p e s mm below meth c C hin2 hb0
  refine rx_aload_n C.1 (pc := 0) d_Fa_init_0 rfl ?_
  refine rz_obj C.1 (rx_in t_201 rfl) (rx_in t_16 rfl) (rx_in t_17 rfl) (pc := 1) d_Fa_init_1 (Nat.le_of_ble_eq_true rfl) (Nat.le_of_ble_eq_true rfl) ?_
  refine rx_aload_n C.1 (pc := 4) d_Fa_init_4 rfl ?_
  refine rx_iload_n C.1 (pc := 5) d_Fa_init_5 rfl ?_
  refine rz_putF D b ca (i := 58) (ci := 5) (k := 0) (fs := [.int 0, .int 0, .null, .null, .null, .null]) (v := .int x) (ty := .int) C u_Fa t_Fa_ok n_Fa rfl (Nat.le_of_ble_eq_true rfl) (rx_in t_202 rfl) rfl rfl (by decide +kernel) rfl rfl (pc := 6) d_Fa_init_6 hin2 (by decide) hF (Nat.le_of_ble_eq_true rfl) ?_
  refine rx_aload_n C.1 (pc := 9) d_Fa_init_9 rfl ?_
  refine rx_iload_n C.1 (pc := 10) d_Fa_init_10 rfl ?_
  refine rz_putF D b ca (i := 58) (ci := 5) (k := 1) (fs := [.int x, .int 0, .null, .null, .null, .null]) (v := .int pl) (ty := .int) C u_Fa t_Fa_ok n_Fa rfl (Nat.le_of_ble_eq_true rfl) (rx_in t_203 rfl) rfl rfl (by decide +kernel) rfl rfl (pc := 11) d_Fa_init_11 hin2 (by decide) rfl (Nat.le_of_ble_eq_true rfl) ?_
  refine rx_aload_n C.1 (pc := 14) d_Fa_init_14 rfl ?_
  refine rx_aload_n C.1 (pc := 15) d_Fa_init_15 rfl ?_
  refine rz_putF D b ca (i := 58) (ci := 5) (k := 2) (fs := [.int x, .int pl, .null, .null, .null, .null]) (v := .ref (b + 1)) (ty := (.object "RoamingNet$Wire")) C u_Fa t_Fa_ok n_Fa rfl (Nat.le_of_ble_eq_true rfl) (rx_in t_204 rfl) rfl rfl (by decide +kernel) rfl rfl (pc := 16) d_Fa_init_16 hin2 (by decide) rfl (Nat.le_of_ble_eq_true rfl) ?_
  refine rx_aload_n C.1 (pc := 19) d_Fa_init_19 rfl ?_
  refine rx_iconst C.1 (v := 2) (pc := 20) d_Fa_init_20 (by decide) ?_
  refine rz_newa D b ca (N := 2) C (rx_in t_194 rfl) (pc := 21) d_Fa_init_21 (by decide) rfl (by decide) (Nat.le_of_ble_eq_true rfl) (Nat.le_of_ble_eq_true rfl) ?_
  refine rz_putF D b ca (i := 58) (ci := 5) (k := 3) (fs := [.int x, .int pl, .ref (b + 1), .null, .null, .null]) (v := .ref (b + 59)) (ty := (.array .int)) C u_Fa t_Fa_ok n_Fa rfl (Nat.le_of_ble_eq_true rfl) (rx_in t_205 rfl) rfl rfl (by decide +kernel) rfl rfl (pc := 23) d_Fa_init_23 hin2 (by decide) rfl (Nat.le_of_ble_eq_true rfl) ?_
  refine rx_aload_n C.1 (pc := 26) d_Fa_init_26 rfl ?_
  refine rx_iconst C.1 (v := 2) (pc := 27) d_Fa_init_27 (by decide) ?_
  refine rz_newa D b ca (N := 2) C (rx_in t_194 rfl) (pc := 28) d_Fa_init_28 (by decide) rfl (by decide) (Nat.le_of_ble_eq_true rfl) (Nat.le_of_ble_eq_true rfl) ?_
  refine rz_putF D b ca (i := 58) (ci := 5) (k := 4) (fs := [.int x, .int pl, .ref (b + 1), .ref (b + 59), .null, .null]) (v := .ref (b + 60)) (ty := (.array .int)) C u_Fa t_Fa_ok n_Fa rfl (Nat.le_of_ble_eq_true rfl) (rx_in t_207 rfl) rfl rfl (by decide +kernel) rfl rfl (pc := 30) d_Fa_init_30 hin2 (by decide) rfl (Nat.le_of_ble_eq_true rfl) ?_
  refine rx_aload_n C.1 (pc := 33) d_Fa_init_33 rfl ?_
  refine rx_iconst C.1 (v := 2) (pc := 34) d_Fa_init_34 (by decide) ?_
  refine rz_newa D b ca (N := 2) C (rx_in t_194 rfl) (pc := 35) d_Fa_init_35 (by decide) rfl (by decide) (Nat.le_of_ble_eq_true rfl) (Nat.le_of_ble_eq_true rfl) ?_
  refine rz_putF D b ca (i := 58) (ci := 5) (k := 5) (fs := [.int x, .int pl, .ref (b + 1), .ref (b + 59), .ref (b + 60), .null]) (v := .ref (b + 61)) (ty := (.array .int)) C u_Fa t_Fa_ok n_Fa rfl (Nat.le_of_ble_eq_true rfl) (rx_in t_208 rfl) rfl rfl (by decide +kernel) rfl rfl (pc := 37) d_Fa_init_37 hin2 (by decide) rfl (Nat.le_of_ble_eq_true rfl) ?_
  exact rz_retE D b ca C (pc := 40) d_Fa_init_40 (by first | rfl | (unfold fz_Fa_58; rfl))
def fz_Fa_62 (b : Nat) (ca : Nat → ClassId) (F : Nat → va_E) (x pl : Int32) : Nat → va_E := let f1 := va_up F 62 (.inr (5, [.int x, .int 0, .null, .null, .null, .null])); let f2 := va_up f1 62 (.inr (5, [.int x, .int pl, .null, .null, .null, .null])); let f3 := va_up f2 62 (.inr (5, [.int x, .int pl, .ref (b + 1), .null, .null, .null])); let f4 := va_up f3 63 (.inl (ca 0, 2, .inl (fun _ => 0))); let f5 := va_up f4 62 (.inr (5, [.int x, .int pl, .ref (b + 1), .ref (b + 63), .null, .null])); let f6 := va_up f5 64 (.inl (ca 0, 2, .inl (fun _ => 0))); let f7 := va_up f6 62 (.inr (5, [.int x, .int pl, .ref (b + 1), .ref (b + 63), .ref (b + 64), .null])); let f8 := va_up f7 65 (.inl (ca 0, 2, .inl (fun _ => 0))); let f9 := va_up f8 62 (.inr (5, [.int x, .int pl, .ref (b + 1), .ref (b + 63), .ref (b + 64), .ref (b + 65)])); f9
set_option maxHeartbeats 4000000 in
set_option maxRecDepth 100000 in
theorem cz_Fa_62 (l : Launch) (D : va_G) (b : Nat) (ca : Nat → ClassId) {F : Nat → va_E} {x pl : Int32} (hF : F 62 = .inr (5, [.int 0, .int 0, .null, .null, .null, .null])) : rz_C l D b ca y_Fa_init b_Fa_init 4 (rz_rm 1 3 6) [.ref (b + 62), .int x, .int pl, .ref (b + 1)] 63 F 66 (fz_Fa_62 b ca F x pl) 3 6 := by
  refine rz_of D b ca (lo := [(0, .ref (b + 62)), (1, .int x), (2, .int pl), (3, .ref (b + 1))]) (by decide) rfl rfl (Nat.le_of_ble_eq_true rfl) rfl ?_
  intro p e s mm below meth c C hin2 hb0
  refine rx_aload_n C.1 (pc := 0) d_Fa_init_0 rfl ?_
  refine rz_obj C.1 (rx_in t_201 rfl) (rx_in t_16 rfl) (rx_in t_17 rfl) (pc := 1) d_Fa_init_1 (Nat.le_of_ble_eq_true rfl) (Nat.le_of_ble_eq_true rfl) ?_
  refine rx_aload_n C.1 (pc := 4) d_Fa_init_4 rfl ?_
  refine rx_iload_n C.1 (pc := 5) d_Fa_init_5 rfl ?_
  refine rz_putF D b ca (i := 62) (ci := 5) (k := 0) (fs := [.int 0, .int 0, .null, .null, .null, .null]) (v := .int x) (ty := .int) C u_Fa t_Fa_ok n_Fa rfl (Nat.le_of_ble_eq_true rfl) (rx_in t_202 rfl) rfl rfl (by decide +kernel) rfl rfl (pc := 6) d_Fa_init_6 hin2 (by decide) hF (Nat.le_of_ble_eq_true rfl) ?_
  refine rx_aload_n C.1 (pc := 9) d_Fa_init_9 rfl ?_
  refine rx_iload_n C.1 (pc := 10) d_Fa_init_10 rfl ?_
  refine rz_putF D b ca (i := 62) (ci := 5) (k := 1) (fs := [.int x, .int 0, .null, .null, .null, .null]) (v := .int pl) (ty := .int) C u_Fa t_Fa_ok n_Fa rfl (Nat.le_of_ble_eq_true rfl) (rx_in t_203 rfl) rfl rfl (by decide +kernel) rfl rfl (pc := 11) d_Fa_init_11 hin2 (by decide) rfl (Nat.le_of_ble_eq_true rfl) ?_
  refine rx_aload_n C.1 (pc := 14) d_Fa_init_14 rfl ?_
  refine rx_aload_n C.1 (pc := 15) d_Fa_init_15 rfl ?_
  refine rz_putF D b ca (i := 62) (ci := 5) (k := 2) (fs := [.int x, .int pl, .null, .null, .null, .null]) (v := .ref (b + 1)) (ty := (.object "RoamingNet$Wire")) C u_Fa t_Fa_ok n_Fa rfl (Nat.le_of_ble_eq_true rfl) (rx_in t_204 rfl) rfl rfl (by decide +kernel) rfl rfl (pc := 16) d_Fa_init_16 hin2 (by decide) rfl (Nat.le_of_ble_eq_true rfl) ?_
  refine rx_aload_n C.1 (pc := 19) d_Fa_init_19 rfl ?_
  refine rx_iconst C.1 (v := 2) (pc := 20) d_Fa_init_20 (by decide) ?_
  refine rz_newa D b ca (N := 2) C (rx_in t_194 rfl) (pc := 21) d_Fa_init_21 (by decide) rfl (by decide) (Nat.le_of_ble_eq_true rfl) (Nat.le_of_ble_eq_true rfl) ?_
  refine rz_putF D b ca (i := 62) (ci := 5) (k := 3) (fs := [.int x, .int pl, .ref (b + 1), .null, .null, .null]) (v := .ref (b + 63)) (ty := (.array .int)) C u_Fa t_Fa_ok n_Fa rfl (Nat.le_of_ble_eq_true rfl) (rx_in t_205 rfl) rfl rfl (by decide +kernel) rfl rfl (pc := 23) d_Fa_init_23 hin2 (by decide) rfl (Nat.le_of_ble_eq_true rfl) ?_
  refine rx_aload_n C.1 (pc := 26) d_Fa_init_26 rfl ?_
  refine rx_iconst C.1 (v := 2) (pc := 27) d_Fa_init_27 (by decide) ?_
  refine rz_newa D b ca (N := 2) C (rx_in t_194 rfl) (pc := 28) d_Fa_init_28 (by decide) rfl (by decide) (Nat.le_of_ble_eq_true rfl) (Nat.le_of_ble_eq_true rfl) ?_
  refine rz_putF D b ca (i := 62) (ci := 5) (k := 4) (fs := [.int x, .int pl, .ref (b + 1), .ref (b + 63), .null, .null]) (v := .ref (b + 64)) (ty := (.array .int)) C u_Fa t_Fa_ok n_Fa rfl (Nat.le_of_ble_eq_true rfl) (rx_in t_207 rfl) rfl rfl (by decide +kernel) rfl rfl (pc := 30) d_Fa_init_30 hin2 (by decide) rfl (Nat.le_of_ble_eq_true rfl) ?_
  refine rx_aload_n C.1 (pc := 33) d_Fa_init_33 rfl ?_
  refine rx_iconst C.1 (v := 2) (pc := 34) d_Fa_init_34 (by decide) ?_
  refine rz_newa D b ca (N := 2) C (rx_in t_194 rfl) (pc := 35) d_Fa_init_35 (by decide) rfl (by decide) (Nat.le_of_ble_eq_true rfl) (Nat.le_of_ble_eq_true rfl) ?_
  refine rz_putF D b ca (i := 62) (ci := 5) (k := 5) (fs := [.int x, .int pl, .ref (b + 1), .ref (b + 63), .ref (b + 64), .null]) (v := .ref (b + 65)) (ty := (.array .int)) C u_Fa t_Fa_ok n_Fa rfl (Nat.le_of_ble_eq_true rfl) (rx_in t_208 rfl) rfl rfl (by decide +kernel) rfl rfl (pc := 37) d_Fa_init_37 hin2 (by decide) rfl (Nat.le_of_ble_eq_true rfl) ?_
  exact rz_retE D b ca C (pc := 40) d_Fa_init_40 (by first | rfl | (unfold fz_Fa_62; rfl))
def fz_Corr_66 (b : Nat) (ca : Nat → ClassId) (F : Nat → va_E)  : Nat → va_E := let f1 := va_up F 66 (.inr (6, [.ref (b + 1), .null, .null, .null, .null])); let f2 := va_up f1 67 (.inl (ca 0, 2, .inl (fun _ => 0))); let f3 := va_up f2 66 (.inr (6, [.ref (b + 1), .ref (b + 67), .null, .null, .null])); let f4 := va_up f3 68 (.inl (ca 0, 2, .inl (fun _ => 0))); let f5 := va_up f4 66 (.inr (6, [.ref (b + 1), .ref (b + 67), .ref (b + 68), .null, .null])); let f6 := va_up f5 69 (.inl (ca 0, 2, .inl (fun _ => 0))); let f7 := va_up f6 66 (.inr (6, [.ref (b + 1), .ref (b + 67), .ref (b + 68), .ref (b + 69), .null])); let f8 := va_up f7 70 (.inl (ca 0, 2, .inl (fun _ => 0))); let f9 := va_up f8 66 (.inr (6, [.ref (b + 1), .ref (b + 67), .ref (b + 68), .ref (b + 69), .ref (b + 70)])); f9
set_option maxHeartbeats 4000000 in
set_option maxRecDepth 100000 in
theorem cz_Corr_66 (l : Launch) (D : va_G) (b : Nat) (ca : Nat → ClassId) {F : Nat → va_E}  (hF : F 66 = .inr (6, [.null, .null, .null, .null, .null])) : rz_C l D b ca y_Corr_init b_Corr_init 2 (rz_rm 1 4 8) [.ref (b + 66), .ref (b + 1)] 67 F 71 (fz_Corr_66 b ca F ) 4 8 := by
  refine rz_of D b ca (lo := [(0, .ref (b + 66)), (1, .ref (b + 1))]) (by decide) rfl rfl (Nat.le_of_ble_eq_true rfl) rfl ?_
  intro p e s mm below meth c C hin2 hb0
  refine rx_aload_n C.1 (pc := 0) d_Corr_init_0 rfl ?_
  refine rz_obj C.1 (rx_in t_227 rfl) (rx_in t_16 rfl) (rx_in t_17 rfl) (pc := 1) d_Corr_init_1 (Nat.le_of_ble_eq_true rfl) (Nat.le_of_ble_eq_true rfl) ?_
  refine rx_aload_n C.1 (pc := 4) d_Corr_init_4 rfl ?_
  refine rx_aload_n C.1 (pc := 5) d_Corr_init_5 rfl ?_
  refine rz_putF D b ca (i := 66) (ci := 6) (k := 0) (fs := [.null, .null, .null, .null, .null]) (v := .ref (b + 1)) (ty := (.object "RoamingNet$Wire")) C u_Corr t_Corr_ok n_Corr rfl (Nat.le_of_ble_eq_true rfl) (rx_in t_228 rfl) rfl rfl (by decide +kernel) rfl rfl (pc := 6) d_Corr_init_6 hin2 (by decide) hF (Nat.le_of_ble_eq_true rfl) ?_
  refine rx_aload_n C.1 (pc := 9) d_Corr_init_9 rfl ?_
  refine rx_iconst C.1 (v := 2) (pc := 10) d_Corr_init_10 (by decide) ?_
  refine rz_newa D b ca (N := 2) C (rx_in t_194 rfl) (pc := 11) d_Corr_init_11 (by decide) rfl (by decide) (Nat.le_of_ble_eq_true rfl) (Nat.le_of_ble_eq_true rfl) ?_
  refine rz_putF D b ca (i := 66) (ci := 6) (k := 1) (fs := [.ref (b + 1), .null, .null, .null, .null]) (v := .ref (b + 67)) (ty := (.array .int)) C u_Corr t_Corr_ok n_Corr rfl (Nat.le_of_ble_eq_true rfl) (rx_in t_229 rfl) rfl rfl (by decide +kernel) rfl rfl (pc := 13) d_Corr_init_13 hin2 (by decide) rfl (Nat.le_of_ble_eq_true rfl) ?_
  refine rx_aload_n C.1 (pc := 16) d_Corr_init_16 rfl ?_
  refine rx_iconst C.1 (v := 2) (pc := 17) d_Corr_init_17 (by decide) ?_
  refine rz_newa D b ca (N := 2) C (rx_in t_194 rfl) (pc := 18) d_Corr_init_18 (by decide) rfl (by decide) (Nat.le_of_ble_eq_true rfl) (Nat.le_of_ble_eq_true rfl) ?_
  refine rz_putF D b ca (i := 66) (ci := 6) (k := 2) (fs := [.ref (b + 1), .ref (b + 67), .null, .null, .null]) (v := .ref (b + 68)) (ty := (.array .int)) C u_Corr t_Corr_ok n_Corr rfl (Nat.le_of_ble_eq_true rfl) (rx_in t_231 rfl) rfl rfl (by decide +kernel) rfl rfl (pc := 20) d_Corr_init_20 hin2 (by decide) rfl (Nat.le_of_ble_eq_true rfl) ?_
  refine rx_aload_n C.1 (pc := 23) d_Corr_init_23 rfl ?_
  refine rx_iconst C.1 (v := 2) (pc := 24) d_Corr_init_24 (by decide) ?_
  refine rz_newa D b ca (N := 2) C (rx_in t_194 rfl) (pc := 25) d_Corr_init_25 (by decide) rfl (by decide) (Nat.le_of_ble_eq_true rfl) (Nat.le_of_ble_eq_true rfl) ?_
  refine rz_putF D b ca (i := 66) (ci := 6) (k := 3) (fs := [.ref (b + 1), .ref (b + 67), .ref (b + 68), .null, .null]) (v := .ref (b + 69)) (ty := (.array .int)) C u_Corr t_Corr_ok n_Corr rfl (Nat.le_of_ble_eq_true rfl) (rx_in t_233 rfl) rfl rfl (by decide +kernel) rfl rfl (pc := 27) d_Corr_init_27 hin2 (by decide) rfl (Nat.le_of_ble_eq_true rfl) ?_
  refine rx_aload_n C.1 (pc := 30) d_Corr_init_30 rfl ?_
  refine rx_iconst C.1 (v := 2) (pc := 31) d_Corr_init_31 (by decide) ?_
  refine rz_newa D b ca (N := 2) C (rx_in t_194 rfl) (pc := 32) d_Corr_init_32 (by decide) rfl (by decide) (Nat.le_of_ble_eq_true rfl) (Nat.le_of_ble_eq_true rfl) ?_
  refine rz_putF D b ca (i := 66) (ci := 6) (k := 4) (fs := [.ref (b + 1), .ref (b + 67), .ref (b + 68), .ref (b + 69), .null]) (v := .ref (b + 70)) (ty := (.array .int)) C u_Corr t_Corr_ok n_Corr rfl (Nat.le_of_ble_eq_true rfl) (rx_in t_235 rfl) rfl rfl (by decide +kernel) rfl rfl (pc := 34) d_Corr_init_34 hin2 (by decide) rfl (Nat.le_of_ble_eq_true rfl) ?_
  exact rz_retE D b ca C (pc := 37) d_Corr_init_37 (by first | rfl | (unfold fz_Corr_66; rfl))
def fz_Mod_71 (b : Nat) (ca : Nat → ClassId) (F : Nat → va_E) (x y z : Int32) : Nat → va_E := let f1 := va_up F 72 (.inl (ca 0, 369, .inl (fun _ => 0))); let f2 := va_up f1 71 (.inr (7, [.int 0, .int 0, .int 0, .int 0, .int 0, .ref (b + 72), .null, .null, .null, .null, .null, .null, .null, .null, .null, .null, .null, .null, .null, .null, .null, .null, .null, .null, .null, .null, .null, .null, .null])); let f3 := va_up f2 73 (.inl (ca 0, 9, .inl (fun _ => 0))); let f4 := va_up f3 71 (.inr (7, [.int 0, .int 0, .int 0, .int 0, .int 0, .ref (b + 72), .ref (b + 73), .null, .null, .null, .null, .null, .null, .null, .null, .null, .null, .null, .null, .null, .null, .null, .null, .null, .null, .null, .null, .null, .null])); let f5 := va_up f4 74 (.inl (ca 0, 2, .inl (fun _ => 0))); let f6 := va_up f5 71 (.inr (7, [.int 0, .int 0, .int 0, .int 0, .int 0, .ref (b + 72), .ref (b + 73), .ref (b + 74), .null, .null, .null, .null, .null, .null, .null, .null, .null, .null, .null, .null, .null, .null, .null, .null, .null, .null, .null, .null, .null])); let f7 := va_up f6 75 (.inl (ca 0, 2, .inl (fun _ => 0))); let f8 := va_up f7 71 (.inr (7, [.int 0, .int 0, .int 0, .int 0, .int 0, .ref (b + 72), .ref (b + 73), .ref (b + 74), .ref (b + 75), .null, .null, .null, .null, .null, .null, .null, .null, .null, .null, .null, .null, .null, .null, .null, .null, .null, .null, .null, .null])); let f9 := va_up f8 76 (.inl (ca 0, 2, .inl (fun _ => 0))); let f10 := va_up f9 71 (.inr (7, [.int 0, .int 0, .int 0, .int 0, .int 0, .ref (b + 72), .ref (b + 73), .ref (b + 74), .ref (b + 75), .ref (b + 76), .null, .null, .null, .null, .null, .null, .null, .null, .null, .null, .null, .null, .null, .null, .null, .null, .null, .null, .null])); let f11 := va_up f10 77 (.inl (ca 0, 2, .inl (fun _ => 0))); let f12 := va_up f11 71 (.inr (7, [.int 0, .int 0, .int 0, .int 0, .int 0, .ref (b + 72), .ref (b + 73), .ref (b + 74), .ref (b + 75), .ref (b + 76), .ref (b + 77), .null, .null, .null, .null, .null, .null, .null, .null, .null, .null, .null, .null, .null, .null, .null, .null, .null, .null])); let f13 := va_up f12 78 (.inl (ca 0, 2, .inl (fun _ => 0))); let f14 := va_up f13 71 (.inr (7, [.int 0, .int 0, .int 0, .int 0, .int 0, .ref (b + 72), .ref (b + 73), .ref (b + 74), .ref (b + 75), .ref (b + 76), .ref (b + 77), .ref (b + 78), .null, .null, .null, .null, .null, .null, .null, .null, .null, .null, .null, .null, .null, .null, .null, .null, .null])); let f15 := va_up f14 79 (.inl (ca 0, 2, .inl (fun _ => 0))); let f16 := va_up f15 71 (.inr (7, [.int 0, .int 0, .int 0, .int 0, .int 0, .ref (b + 72), .ref (b + 73), .ref (b + 74), .ref (b + 75), .ref (b + 76), .ref (b + 77), .ref (b + 78), .ref (b + 79), .null, .null, .null, .null, .null, .null, .null, .null, .null, .null, .null, .null, .null, .null, .null, .null])); let f17 := va_up f16 80 (.inl (ca 0, 2, .inl (fun _ => 0))); let f18 := va_up f17 71 (.inr (7, [.int 0, .int 0, .int 0, .int 0, .int 0, .ref (b + 72), .ref (b + 73), .ref (b + 74), .ref (b + 75), .ref (b + 76), .ref (b + 77), .ref (b + 78), .ref (b + 79), .ref (b + 80), .null, .null, .null, .null, .null, .null, .null, .null, .null, .null, .null, .null, .null, .null, .null])); let f19 := va_up f18 81 (.inl (ca 0, 2, .inl (fun _ => 0))); let f20 := va_up f19 71 (.inr (7, [.int 0, .int 0, .int 0, .int 0, .int 0, .ref (b + 72), .ref (b + 73), .ref (b + 74), .ref (b + 75), .ref (b + 76), .ref (b + 77), .ref (b + 78), .ref (b + 79), .ref (b + 80), .ref (b + 81), .null, .null, .null, .null, .null, .null, .null, .null, .null, .null, .null, .null, .null, .null])); let f21 := va_up f20 82 (.inl (ca 0, 2, .inl (fun _ => 0))); let f22 := va_up f21 71 (.inr (7, [.int 0, .int 0, .int 0, .int 0, .int 0, .ref (b + 72), .ref (b + 73), .ref (b + 74), .ref (b + 75), .ref (b + 76), .ref (b + 77), .ref (b + 78), .ref (b + 79), .ref (b + 80), .ref (b + 81), .ref (b + 82), .null, .null, .null, .null, .null, .null, .null, .null, .null, .null, .null, .null, .null])); let f23 := va_up f22 83 (.inl (ca 0, 2, .inl (fun _ => 0))); let f24 := va_up f23 71 (.inr (7, [.int 0, .int 0, .int 0, .int 0, .int 0, .ref (b + 72), .ref (b + 73), .ref (b + 74), .ref (b + 75), .ref (b + 76), .ref (b + 77), .ref (b + 78), .ref (b + 79), .ref (b + 80), .ref (b + 81), .ref (b + 82), .ref (b + 83), .null, .null, .null, .null, .null, .null, .null, .null, .null, .null, .null, .null])); let f25 := va_up f24 84 (.inl (ca 0, 2, .inl (fun _ => 0))); let f26 := va_up f25 71 (.inr (7, [.int 0, .int 0, .int 0, .int 0, .int 0, .ref (b + 72), .ref (b + 73), .ref (b + 74), .ref (b + 75), .ref (b + 76), .ref (b + 77), .ref (b + 78), .ref (b + 79), .ref (b + 80), .ref (b + 81), .ref (b + 82), .ref (b + 83), .ref (b + 84), .null, .null, .null, .null, .null, .null, .null, .null, .null, .null, .null])); let f27 := va_up f26 85 (.inl (ca 0, 2, .inl (fun _ => 0))); let f28 := va_up f27 71 (.inr (7, [.int 0, .int 0, .int 0, .int 0, .int 0, .ref (b + 72), .ref (b + 73), .ref (b + 74), .ref (b + 75), .ref (b + 76), .ref (b + 77), .ref (b + 78), .ref (b + 79), .ref (b + 80), .ref (b + 81), .ref (b + 82), .ref (b + 83), .ref (b + 84), .ref (b + 85), .null, .null, .null, .null, .null, .null, .null, .null, .null, .null])); let f29 := va_up f28 86 (.inl (ca 0, 2, .inl (fun _ => 0))); let f30 := va_up f29 71 (.inr (7, [.int 0, .int 0, .int 0, .int 0, .int 0, .ref (b + 72), .ref (b + 73), .ref (b + 74), .ref (b + 75), .ref (b + 76), .ref (b + 77), .ref (b + 78), .ref (b + 79), .ref (b + 80), .ref (b + 81), .ref (b + 82), .ref (b + 83), .ref (b + 84), .ref (b + 85), .ref (b + 86), .null, .null, .null, .null, .null, .null, .null, .null, .null])); let f31 := va_up f30 87 (.inl (ca 0, 2, .inl (fun _ => 0))); let f32 := va_up f31 71 (.inr (7, [.int 0, .int 0, .int 0, .int 0, .int 0, .ref (b + 72), .ref (b + 73), .ref (b + 74), .ref (b + 75), .ref (b + 76), .ref (b + 77), .ref (b + 78), .ref (b + 79), .ref (b + 80), .ref (b + 81), .ref (b + 82), .ref (b + 83), .ref (b + 84), .ref (b + 85), .ref (b + 86), .ref (b + 87), .null, .null, .null, .null, .null, .null, .null, .null])); let f33 := va_up f32 88 (.inl (ca 0, 2, .inl (fun _ => 0))); let f34 := va_up f33 71 (.inr (7, [.int 0, .int 0, .int 0, .int 0, .int 0, .ref (b + 72), .ref (b + 73), .ref (b + 74), .ref (b + 75), .ref (b + 76), .ref (b + 77), .ref (b + 78), .ref (b + 79), .ref (b + 80), .ref (b + 81), .ref (b + 82), .ref (b + 83), .ref (b + 84), .ref (b + 85), .ref (b + 86), .ref (b + 87), .ref (b + 88), .null, .null, .null, .null, .null, .null, .null])); let f35 := va_up f34 89 (.inl (ca 0, 8, .inl (fun _ => 0))); let f36 := va_up f35 71 (.inr (7, [.int 0, .int 0, .int 0, .int 0, .int 0, .ref (b + 72), .ref (b + 73), .ref (b + 74), .ref (b + 75), .ref (b + 76), .ref (b + 77), .ref (b + 78), .ref (b + 79), .ref (b + 80), .ref (b + 81), .ref (b + 82), .ref (b + 83), .ref (b + 84), .ref (b + 85), .ref (b + 86), .ref (b + 87), .ref (b + 88), .ref (b + 89), .null, .null, .null, .null, .null, .null])); let f37 := va_up f36 90 (.inl (ca 0, 8, .inl (fun _ => 0))); let f38 := va_up f37 71 (.inr (7, [.int 0, .int 0, .int 0, .int 0, .int 0, .ref (b + 72), .ref (b + 73), .ref (b + 74), .ref (b + 75), .ref (b + 76), .ref (b + 77), .ref (b + 78), .ref (b + 79), .ref (b + 80), .ref (b + 81), .ref (b + 82), .ref (b + 83), .ref (b + 84), .ref (b + 85), .ref (b + 86), .ref (b + 87), .ref (b + 88), .ref (b + 89), .ref (b + 90), .null, .null, .null, .null, .null])); let f39 := va_up f38 91 (.inl (ca 0, 8, .inl (fun _ => 0))); let f40 := va_up f39 71 (.inr (7, [.int 0, .int 0, .int 0, .int 0, .int 0, .ref (b + 72), .ref (b + 73), .ref (b + 74), .ref (b + 75), .ref (b + 76), .ref (b + 77), .ref (b + 78), .ref (b + 79), .ref (b + 80), .ref (b + 81), .ref (b + 82), .ref (b + 83), .ref (b + 84), .ref (b + 85), .ref (b + 86), .ref (b + 87), .ref (b + 88), .ref (b + 89), .ref (b + 90), .ref (b + 91), .null, .null, .null, .null])); let f41 := va_up f40 92 (.inl (ca 0, 2, .inl (fun _ => 0))); let f42 := va_up f41 71 (.inr (7, [.int 0, .int 0, .int 0, .int 0, .int 0, .ref (b + 72), .ref (b + 73), .ref (b + 74), .ref (b + 75), .ref (b + 76), .ref (b + 77), .ref (b + 78), .ref (b + 79), .ref (b + 80), .ref (b + 81), .ref (b + 82), .ref (b + 83), .ref (b + 84), .ref (b + 85), .ref (b + 86), .ref (b + 87), .ref (b + 88), .ref (b + 89), .ref (b + 90), .ref (b + 91), .ref (b + 92), .null, .null, .null])); let f43 := va_up f42 93 (.inl (ca 0, 2, .inl (fun _ => 0))); let f44 := va_up f43 71 (.inr (7, [.int 0, .int 0, .int 0, .int 0, .int 0, .ref (b + 72), .ref (b + 73), .ref (b + 74), .ref (b + 75), .ref (b + 76), .ref (b + 77), .ref (b + 78), .ref (b + 79), .ref (b + 80), .ref (b + 81), .ref (b + 82), .ref (b + 83), .ref (b + 84), .ref (b + 85), .ref (b + 86), .ref (b + 87), .ref (b + 88), .ref (b + 89), .ref (b + 90), .ref (b + 91), .ref (b + 92), .ref (b + 93), .null, .null])); let f45 := va_up f44 94 (.inl (ca 0, 2, .inl (fun _ => 0))); let f46 := va_up f45 71 (.inr (7, [.int 0, .int 0, .int 0, .int 0, .int 0, .ref (b + 72), .ref (b + 73), .ref (b + 74), .ref (b + 75), .ref (b + 76), .ref (b + 77), .ref (b + 78), .ref (b + 79), .ref (b + 80), .ref (b + 81), .ref (b + 82), .ref (b + 83), .ref (b + 84), .ref (b + 85), .ref (b + 86), .ref (b + 87), .ref (b + 88), .ref (b + 89), .ref (b + 90), .ref (b + 91), .ref (b + 92), .ref (b + 93), .ref (b + 94), .null])); let f47 := va_up f46 95 (.inl (ca 0, 2, .inl (fun _ => 0))); let f48 := va_up f47 71 (.inr (7, [.int 0, .int 0, .int 0, .int 0, .int 0, .ref (b + 72), .ref (b + 73), .ref (b + 74), .ref (b + 75), .ref (b + 76), .ref (b + 77), .ref (b + 78), .ref (b + 79), .ref (b + 80), .ref (b + 81), .ref (b + 82), .ref (b + 83), .ref (b + 84), .ref (b + 85), .ref (b + 86), .ref (b + 87), .ref (b + 88), .ref (b + 89), .ref (b + 90), .ref (b + 91), .ref (b + 92), .ref (b + 93), .ref (b + 94), .ref (b + 95)])); let f49 := va_up f48 71 (.inr (7, [.int (if x < 6 then 20 else (if 60 < x then 20 else x) : Int32), .int 0, .int 0, .int 0, .int 0, .ref (b + 72), .ref (b + 73), .ref (b + 74), .ref (b + 75), .ref (b + 76), .ref (b + 77), .ref (b + 78), .ref (b + 79), .ref (b + 80), .ref (b + 81), .ref (b + 82), .ref (b + 83), .ref (b + 84), .ref (b + 85), .ref (b + 86), .ref (b + 87), .ref (b + 88), .ref (b + 89), .ref (b + 90), .ref (b + 91), .ref (b + 92), .ref (b + 93), .ref (b + 94), .ref (b + 95)])); let f50 := va_up f49 71 (.inr (7, [.int (if x < 6 then 20 else (if 60 < x then 20 else x) : Int32), .int (if y < 6 then 30 else (if 60 < y then 30 else y) : Int32), .int 0, .int 0, .int 0, .ref (b + 72), .ref (b + 73), .ref (b + 74), .ref (b + 75), .ref (b + 76), .ref (b + 77), .ref (b + 78), .ref (b + 79), .ref (b + 80), .ref (b + 81), .ref (b + 82), .ref (b + 83), .ref (b + 84), .ref (b + 85), .ref (b + 86), .ref (b + 87), .ref (b + 88), .ref (b + 89), .ref (b + 90), .ref (b + 91), .ref (b + 92), .ref (b + 93), .ref (b + 94), .ref (b + 95)])); let f51 := va_up f50 71 (.inr (7, [.int (if x < 6 then 20 else (if 60 < x then 20 else x) : Int32), .int (if y < 6 then 30 else (if 60 < y then 30 else y) : Int32), .int (if z = 1 then 1 else 2 : Int32), .int 0, .int 0, .ref (b + 72), .ref (b + 73), .ref (b + 74), .ref (b + 75), .ref (b + 76), .ref (b + 77), .ref (b + 78), .ref (b + 79), .ref (b + 80), .ref (b + 81), .ref (b + 82), .ref (b + 83), .ref (b + 84), .ref (b + 85), .ref (b + 86), .ref (b + 87), .ref (b + 88), .ref (b + 89), .ref (b + 90), .ref (b + 91), .ref (b + 92), .ref (b + 93), .ref (b + 94), .ref (b + 95)])); let f52 := va_up f51 78 (.inl (ca 0, 2, .inl (upd (fun _ => 0) (Int32.toNatClampNeg 0) 2147483647))); let f53 := va_up f52 79 (.inl (ca 0, 2, .inl (upd (fun _ => 0) (Int32.toNatClampNeg 0) (-1)))); let f54 := va_up f53 78 (.inl (ca 0, 2, .inl (upd (upd (fun _ => 0) (Int32.toNatClampNeg 0) 2147483647) (Int32.toNatClampNeg 1) 2147483647))); let f55 := va_up f54 79 (.inl (ca 0, 2, .inl (upd (upd (fun _ => 0) (Int32.toNatClampNeg 0) (-1)) (Int32.toNatClampNeg 1) (-1)))); f55
set_option maxHeartbeats 4000000 in
set_option maxRecDepth 100000 in
theorem cz_Mod_71 (l : Launch) (D : va_G) (b : Nat) (ca : Nat → ClassId) {F : Nat → va_E} {x y z : Int32} (hF : F 71 = .inr (7, [.int 0, .int 0, .int 0, .int 0, .int 0, .null, .null, .null, .null, .null, .null, .null, .null, .null, .null, .null, .null, .null, .null, .null, .null, .null, .null, .null, .null, .null, .null, .null, .null])) : rz_C l D b ca y_Mod_init b_Mod_init 5 (rz_rm 1 24 440) [.ref (b + 71), .int x, .int y, .int z] 72 F 96 (fz_Mod_71 b ca F x y z) 24 440 := by
  refine rz_of D b ca (lo := [(0, .ref (b + 71)), (1, .int x), (2, .int y), (3, .int z)]) (by decide) rfl rfl (Nat.le_of_ble_eq_true rfl) rfl ?_
  intro p e s mm below meth c C hin2 hb0
  refine rx_aload_n C.1 (pc := 0) d_Mod_init_0 rfl ?_
  refine rz_obj C.1 (rx_in t_519 rfl) (rx_in t_16 rfl) (rx_in t_17 rfl) (pc := 1) d_Mod_init_1 (Nat.le_of_ble_eq_true rfl) (Nat.le_of_ble_eq_true rfl) ?_
  refine rx_aload_n C.1 (pc := 4) d_Mod_init_4 rfl ?_
  refine rx_sipush C.1 (v := 369) (pc := 5) d_Mod_init_5 (by decide) ?_
  refine rz_newa D b ca (N := 369) C (rx_in t_194 rfl) (pc := 8) d_Mod_init_8 (by decide) rfl (by decide) (Nat.le_of_ble_eq_true rfl) (Nat.le_of_ble_eq_true rfl) ?_
  refine rz_putF D b ca (i := 71) (ci := 7) (k := 5) (fs := [.int 0, .int 0, .int 0, .int 0, .int 0, .null, .null, .null, .null, .null, .null, .null, .null, .null, .null, .null, .null, .null, .null, .null, .null, .null, .null, .null, .null, .null, .null, .null, .null]) (v := .ref (b + 72)) (ty := (.array .int)) C u_Mod t_Mod_ok n_Mod rfl (Nat.le_of_ble_eq_true rfl) (rx_in t_526 rfl) rfl rfl (by decide +kernel) rfl rfl (pc := 10) d_Mod_init_10 hin2 (by decide) hF (Nat.le_of_ble_eq_true rfl) ?_
  refine rx_aload_n C.1 (pc := 13) d_Mod_init_13 rfl ?_
  refine rx_bipush C.1 (v := 9) (pc := 14) d_Mod_init_14 (by decide) ?_
  refine rz_newa D b ca (N := 9) C (rx_in t_194 rfl) (pc := 16) d_Mod_init_16 (by decide) rfl (by decide) (Nat.le_of_ble_eq_true rfl) (Nat.le_of_ble_eq_true rfl) ?_
  refine rz_putF D b ca (i := 71) (ci := 7) (k := 6) (fs := [.int 0, .int 0, .int 0, .int 0, .int 0, .ref (b + 72), .null, .null, .null, .null, .null, .null, .null, .null, .null, .null, .null, .null, .null, .null, .null, .null, .null, .null, .null, .null, .null, .null, .null]) (v := .ref (b + 73)) (ty := (.array .int)) C u_Mod t_Mod_ok n_Mod rfl (Nat.le_of_ble_eq_true rfl) (rx_in t_527 rfl) rfl rfl (by decide +kernel) rfl rfl (pc := 18) d_Mod_init_18 hin2 (by decide) rfl (Nat.le_of_ble_eq_true rfl) ?_
  refine rx_aload_n C.1 (pc := 21) d_Mod_init_21 rfl ?_
  refine rx_iconst C.1 (v := 2) (pc := 22) d_Mod_init_22 (by decide) ?_
  refine rz_newa D b ca (N := 2) C (rx_in t_194 rfl) (pc := 23) d_Mod_init_23 (by decide) rfl (by decide) (Nat.le_of_ble_eq_true rfl) (Nat.le_of_ble_eq_true rfl) ?_
  refine rz_putF D b ca (i := 71) (ci := 7) (k := 7) (fs := [.int 0, .int 0, .int 0, .int 0, .int 0, .ref (b + 72), .ref (b + 73), .null, .null, .null, .null, .null, .null, .null, .null, .null, .null, .null, .null, .null, .null, .null, .null, .null, .null, .null, .null, .null, .null]) (v := .ref (b + 74)) (ty := (.array .int)) C u_Mod t_Mod_ok n_Mod rfl (Nat.le_of_ble_eq_true rfl) (rx_in t_528 rfl) rfl rfl (by decide +kernel) rfl rfl (pc := 25) d_Mod_init_25 hin2 (by decide) rfl (Nat.le_of_ble_eq_true rfl) ?_
  refine rx_aload_n C.1 (pc := 28) d_Mod_init_28 rfl ?_
  refine rx_iconst C.1 (v := 2) (pc := 29) d_Mod_init_29 (by decide) ?_
  refine rz_newa D b ca (N := 2) C (rx_in t_194 rfl) (pc := 30) d_Mod_init_30 (by decide) rfl (by decide) (Nat.le_of_ble_eq_true rfl) (Nat.le_of_ble_eq_true rfl) ?_
  refine rz_putF D b ca (i := 71) (ci := 7) (k := 8) (fs := [.int 0, .int 0, .int 0, .int 0, .int 0, .ref (b + 72), .ref (b + 73), .ref (b + 74), .null, .null, .null, .null, .null, .null, .null, .null, .null, .null, .null, .null, .null, .null, .null, .null, .null, .null, .null, .null, .null]) (v := .ref (b + 75)) (ty := (.array .int)) C u_Mod t_Mod_ok n_Mod rfl (Nat.le_of_ble_eq_true rfl) (rx_in t_529 rfl) rfl rfl (by decide +kernel) rfl rfl (pc := 32) d_Mod_init_32 hin2 (by decide) rfl (Nat.le_of_ble_eq_true rfl) ?_
  refine rx_aload_n C.1 (pc := 35) d_Mod_init_35 rfl ?_
  refine rx_iconst C.1 (v := 2) (pc := 36) d_Mod_init_36 (by decide) ?_
  refine rz_newa D b ca (N := 2) C (rx_in t_194 rfl) (pc := 37) d_Mod_init_37 (by decide) rfl (by decide) (Nat.le_of_ble_eq_true rfl) (Nat.le_of_ble_eq_true rfl) ?_
  refine rz_putF D b ca (i := 71) (ci := 7) (k := 9) (fs := [.int 0, .int 0, .int 0, .int 0, .int 0, .ref (b + 72), .ref (b + 73), .ref (b + 74), .ref (b + 75), .null, .null, .null, .null, .null, .null, .null, .null, .null, .null, .null, .null, .null, .null, .null, .null, .null, .null, .null, .null]) (v := .ref (b + 76)) (ty := (.array .int)) C u_Mod t_Mod_ok n_Mod rfl (Nat.le_of_ble_eq_true rfl) (rx_in t_530 rfl) rfl rfl (by decide +kernel) rfl rfl (pc := 39) d_Mod_init_39 hin2 (by decide) rfl (Nat.le_of_ble_eq_true rfl) ?_
  refine rx_aload_n C.1 (pc := 42) d_Mod_init_42 rfl ?_
  refine rx_iconst C.1 (v := 2) (pc := 43) d_Mod_init_43 (by decide) ?_
  refine rz_newa D b ca (N := 2) C (rx_in t_194 rfl) (pc := 44) d_Mod_init_44 (by decide) rfl (by decide) (Nat.le_of_ble_eq_true rfl) (Nat.le_of_ble_eq_true rfl) ?_
  refine rz_putF D b ca (i := 71) (ci := 7) (k := 10) (fs := [.int 0, .int 0, .int 0, .int 0, .int 0, .ref (b + 72), .ref (b + 73), .ref (b + 74), .ref (b + 75), .ref (b + 76), .null, .null, .null, .null, .null, .null, .null, .null, .null, .null, .null, .null, .null, .null, .null, .null, .null, .null, .null]) (v := .ref (b + 77)) (ty := (.array .int)) C u_Mod t_Mod_ok n_Mod rfl (Nat.le_of_ble_eq_true rfl) (rx_in t_531 rfl) rfl rfl (by decide +kernel) rfl rfl (pc := 46) d_Mod_init_46 hin2 (by decide) rfl (Nat.le_of_ble_eq_true rfl) ?_
  refine rx_aload_n C.1 (pc := 49) d_Mod_init_49 rfl ?_
  refine rx_iconst C.1 (v := 2) (pc := 50) d_Mod_init_50 (by decide) ?_
  refine rz_newa D b ca (N := 2) C (rx_in t_194 rfl) (pc := 51) d_Mod_init_51 (by decide) rfl (by decide) (Nat.le_of_ble_eq_true rfl) (Nat.le_of_ble_eq_true rfl) ?_
  refine rz_putF D b ca (i := 71) (ci := 7) (k := 11) (fs := [.int 0, .int 0, .int 0, .int 0, .int 0, .ref (b + 72), .ref (b + 73), .ref (b + 74), .ref (b + 75), .ref (b + 76), .ref (b + 77), .null, .null, .null, .null, .null, .null, .null, .null, .null, .null, .null, .null, .null, .null, .null, .null, .null, .null]) (v := .ref (b + 78)) (ty := (.array .int)) C u_Mod t_Mod_ok n_Mod rfl (Nat.le_of_ble_eq_true rfl) (rx_in t_532 rfl) rfl rfl (by decide +kernel) rfl rfl (pc := 53) d_Mod_init_53 hin2 (by decide) rfl (Nat.le_of_ble_eq_true rfl) ?_
  refine rx_aload_n C.1 (pc := 56) d_Mod_init_56 rfl ?_
  refine rx_iconst C.1 (v := 2) (pc := 57) d_Mod_init_57 (by decide) ?_
  refine rz_newa D b ca (N := 2) C (rx_in t_194 rfl) (pc := 58) d_Mod_init_58 (by decide) rfl (by decide) (Nat.le_of_ble_eq_true rfl) (Nat.le_of_ble_eq_true rfl) ?_
  refine rz_putF D b ca (i := 71) (ci := 7) (k := 12) (fs := [.int 0, .int 0, .int 0, .int 0, .int 0, .ref (b + 72), .ref (b + 73), .ref (b + 74), .ref (b + 75), .ref (b + 76), .ref (b + 77), .ref (b + 78), .null, .null, .null, .null, .null, .null, .null, .null, .null, .null, .null, .null, .null, .null, .null, .null, .null]) (v := .ref (b + 79)) (ty := (.array .int)) C u_Mod t_Mod_ok n_Mod rfl (Nat.le_of_ble_eq_true rfl) (rx_in t_533 rfl) rfl rfl (by decide +kernel) rfl rfl (pc := 60) d_Mod_init_60 hin2 (by decide) rfl (Nat.le_of_ble_eq_true rfl) ?_
  refine rx_aload_n C.1 (pc := 63) d_Mod_init_63 rfl ?_
  refine rx_iconst C.1 (v := 2) (pc := 64) d_Mod_init_64 (by decide) ?_
  refine rz_newa D b ca (N := 2) C (rx_in t_194 rfl) (pc := 65) d_Mod_init_65 (by decide) rfl (by decide) (Nat.le_of_ble_eq_true rfl) (Nat.le_of_ble_eq_true rfl) ?_
  refine rz_putF D b ca (i := 71) (ci := 7) (k := 13) (fs := [.int 0, .int 0, .int 0, .int 0, .int 0, .ref (b + 72), .ref (b + 73), .ref (b + 74), .ref (b + 75), .ref (b + 76), .ref (b + 77), .ref (b + 78), .ref (b + 79), .null, .null, .null, .null, .null, .null, .null, .null, .null, .null, .null, .null, .null, .null, .null, .null]) (v := .ref (b + 80)) (ty := (.array .int)) C u_Mod t_Mod_ok n_Mod rfl (Nat.le_of_ble_eq_true rfl) (rx_in t_534 rfl) rfl rfl (by decide +kernel) rfl rfl (pc := 67) d_Mod_init_67 hin2 (by decide) rfl (Nat.le_of_ble_eq_true rfl) ?_
  refine rx_aload_n C.1 (pc := 70) d_Mod_init_70 rfl ?_
  refine rx_iconst C.1 (v := 2) (pc := 71) d_Mod_init_71 (by decide) ?_
  refine rz_newa D b ca (N := 2) C (rx_in t_194 rfl) (pc := 72) d_Mod_init_72 (by decide) rfl (by decide) (Nat.le_of_ble_eq_true rfl) (Nat.le_of_ble_eq_true rfl) ?_
  refine rz_putF D b ca (i := 71) (ci := 7) (k := 14) (fs := [.int 0, .int 0, .int 0, .int 0, .int 0, .ref (b + 72), .ref (b + 73), .ref (b + 74), .ref (b + 75), .ref (b + 76), .ref (b + 77), .ref (b + 78), .ref (b + 79), .ref (b + 80), .null, .null, .null, .null, .null, .null, .null, .null, .null, .null, .null, .null, .null, .null, .null]) (v := .ref (b + 81)) (ty := (.array .int)) C u_Mod t_Mod_ok n_Mod rfl (Nat.le_of_ble_eq_true rfl) (rx_in t_535 rfl) rfl rfl (by decide +kernel) rfl rfl (pc := 74) d_Mod_init_74 hin2 (by decide) rfl (Nat.le_of_ble_eq_true rfl) ?_
  refine rx_aload_n C.1 (pc := 77) d_Mod_init_77 rfl ?_
  refine rx_iconst C.1 (v := 2) (pc := 78) d_Mod_init_78 (by decide) ?_
  refine rz_newa D b ca (N := 2) C (rx_in t_194 rfl) (pc := 79) d_Mod_init_79 (by decide) rfl (by decide) (Nat.le_of_ble_eq_true rfl) (Nat.le_of_ble_eq_true rfl) ?_
  refine rz_putF D b ca (i := 71) (ci := 7) (k := 15) (fs := [.int 0, .int 0, .int 0, .int 0, .int 0, .ref (b + 72), .ref (b + 73), .ref (b + 74), .ref (b + 75), .ref (b + 76), .ref (b + 77), .ref (b + 78), .ref (b + 79), .ref (b + 80), .ref (b + 81), .null, .null, .null, .null, .null, .null, .null, .null, .null, .null, .null, .null, .null, .null]) (v := .ref (b + 82)) (ty := (.array .int)) C u_Mod t_Mod_ok n_Mod rfl (Nat.le_of_ble_eq_true rfl) (rx_in t_536 rfl) rfl rfl (by decide +kernel) rfl rfl (pc := 81) d_Mod_init_81 hin2 (by decide) rfl (Nat.le_of_ble_eq_true rfl) ?_
  refine rx_aload_n C.1 (pc := 84) d_Mod_init_84 rfl ?_
  refine rx_iconst C.1 (v := 2) (pc := 85) d_Mod_init_85 (by decide) ?_
  refine rz_newa D b ca (N := 2) C (rx_in t_194 rfl) (pc := 86) d_Mod_init_86 (by decide) rfl (by decide) (Nat.le_of_ble_eq_true rfl) (Nat.le_of_ble_eq_true rfl) ?_
  refine rz_putF D b ca (i := 71) (ci := 7) (k := 16) (fs := [.int 0, .int 0, .int 0, .int 0, .int 0, .ref (b + 72), .ref (b + 73), .ref (b + 74), .ref (b + 75), .ref (b + 76), .ref (b + 77), .ref (b + 78), .ref (b + 79), .ref (b + 80), .ref (b + 81), .ref (b + 82), .null, .null, .null, .null, .null, .null, .null, .null, .null, .null, .null, .null, .null]) (v := .ref (b + 83)) (ty := (.array .int)) C u_Mod t_Mod_ok n_Mod rfl (Nat.le_of_ble_eq_true rfl) (rx_in t_537 rfl) rfl rfl (by decide +kernel) rfl rfl (pc := 88) d_Mod_init_88 hin2 (by decide) rfl (Nat.le_of_ble_eq_true rfl) ?_
  refine rx_aload_n C.1 (pc := 91) d_Mod_init_91 rfl ?_
  refine rx_iconst C.1 (v := 2) (pc := 92) d_Mod_init_92 (by decide) ?_
  refine rz_newa D b ca (N := 2) C (rx_in t_194 rfl) (pc := 93) d_Mod_init_93 (by decide) rfl (by decide) (Nat.le_of_ble_eq_true rfl) (Nat.le_of_ble_eq_true rfl) ?_
  refine rz_putF D b ca (i := 71) (ci := 7) (k := 17) (fs := [.int 0, .int 0, .int 0, .int 0, .int 0, .ref (b + 72), .ref (b + 73), .ref (b + 74), .ref (b + 75), .ref (b + 76), .ref (b + 77), .ref (b + 78), .ref (b + 79), .ref (b + 80), .ref (b + 81), .ref (b + 82), .ref (b + 83), .null, .null, .null, .null, .null, .null, .null, .null, .null, .null, .null, .null]) (v := .ref (b + 84)) (ty := (.array .int)) C u_Mod t_Mod_ok n_Mod rfl (Nat.le_of_ble_eq_true rfl) (rx_in t_538 rfl) rfl rfl (by decide +kernel) rfl rfl (pc := 95) d_Mod_init_95 hin2 (by decide) rfl (Nat.le_of_ble_eq_true rfl) ?_
  refine rx_aload_n C.1 (pc := 98) d_Mod_init_98 rfl ?_
  refine rx_iconst C.1 (v := 2) (pc := 99) d_Mod_init_99 (by decide) ?_
  refine rz_newa D b ca (N := 2) C (rx_in t_194 rfl) (pc := 100) d_Mod_init_100 (by decide) rfl (by decide) (Nat.le_of_ble_eq_true rfl) (Nat.le_of_ble_eq_true rfl) ?_
  refine rz_putF D b ca (i := 71) (ci := 7) (k := 18) (fs := [.int 0, .int 0, .int 0, .int 0, .int 0, .ref (b + 72), .ref (b + 73), .ref (b + 74), .ref (b + 75), .ref (b + 76), .ref (b + 77), .ref (b + 78), .ref (b + 79), .ref (b + 80), .ref (b + 81), .ref (b + 82), .ref (b + 83), .ref (b + 84), .null, .null, .null, .null, .null, .null, .null, .null, .null, .null, .null]) (v := .ref (b + 85)) (ty := (.array .int)) C u_Mod t_Mod_ok n_Mod rfl (Nat.le_of_ble_eq_true rfl) (rx_in t_539 rfl) rfl rfl (by decide +kernel) rfl rfl (pc := 102) d_Mod_init_102 hin2 (by decide) rfl (Nat.le_of_ble_eq_true rfl) ?_
  refine rx_aload_n C.1 (pc := 105) d_Mod_init_105 rfl ?_
  refine rx_iconst C.1 (v := 2) (pc := 106) d_Mod_init_106 (by decide) ?_
  refine rz_newa D b ca (N := 2) C (rx_in t_194 rfl) (pc := 107) d_Mod_init_107 (by decide) rfl (by decide) (Nat.le_of_ble_eq_true rfl) (Nat.le_of_ble_eq_true rfl) ?_
  refine rz_putF D b ca (i := 71) (ci := 7) (k := 19) (fs := [.int 0, .int 0, .int 0, .int 0, .int 0, .ref (b + 72), .ref (b + 73), .ref (b + 74), .ref (b + 75), .ref (b + 76), .ref (b + 77), .ref (b + 78), .ref (b + 79), .ref (b + 80), .ref (b + 81), .ref (b + 82), .ref (b + 83), .ref (b + 84), .ref (b + 85), .null, .null, .null, .null, .null, .null, .null, .null, .null, .null]) (v := .ref (b + 86)) (ty := (.array .int)) C u_Mod t_Mod_ok n_Mod rfl (Nat.le_of_ble_eq_true rfl) (rx_in t_540 rfl) rfl rfl (by decide +kernel) rfl rfl (pc := 109) d_Mod_init_109 hin2 (by decide) rfl (Nat.le_of_ble_eq_true rfl) ?_
  refine rx_aload_n C.1 (pc := 112) d_Mod_init_112 rfl ?_
  refine rx_iconst C.1 (v := 2) (pc := 113) d_Mod_init_113 (by decide) ?_
  refine rz_newa D b ca (N := 2) C (rx_in t_194 rfl) (pc := 114) d_Mod_init_114 (by decide) rfl (by decide) (Nat.le_of_ble_eq_true rfl) (Nat.le_of_ble_eq_true rfl) ?_
  refine rz_putF D b ca (i := 71) (ci := 7) (k := 20) (fs := [.int 0, .int 0, .int 0, .int 0, .int 0, .ref (b + 72), .ref (b + 73), .ref (b + 74), .ref (b + 75), .ref (b + 76), .ref (b + 77), .ref (b + 78), .ref (b + 79), .ref (b + 80), .ref (b + 81), .ref (b + 82), .ref (b + 83), .ref (b + 84), .ref (b + 85), .ref (b + 86), .null, .null, .null, .null, .null, .null, .null, .null, .null]) (v := .ref (b + 87)) (ty := (.array .int)) C u_Mod t_Mod_ok n_Mod rfl (Nat.le_of_ble_eq_true rfl) (rx_in t_541 rfl) rfl rfl (by decide +kernel) rfl rfl (pc := 116) d_Mod_init_116 hin2 (by decide) rfl (Nat.le_of_ble_eq_true rfl) ?_
  refine rx_aload_n C.1 (pc := 119) d_Mod_init_119 rfl ?_
  refine rx_iconst C.1 (v := 2) (pc := 120) d_Mod_init_120 (by decide) ?_
  refine rz_newa D b ca (N := 2) C (rx_in t_194 rfl) (pc := 121) d_Mod_init_121 (by decide) rfl (by decide) (Nat.le_of_ble_eq_true rfl) (Nat.le_of_ble_eq_true rfl) ?_
  refine rz_putF D b ca (i := 71) (ci := 7) (k := 21) (fs := [.int 0, .int 0, .int 0, .int 0, .int 0, .ref (b + 72), .ref (b + 73), .ref (b + 74), .ref (b + 75), .ref (b + 76), .ref (b + 77), .ref (b + 78), .ref (b + 79), .ref (b + 80), .ref (b + 81), .ref (b + 82), .ref (b + 83), .ref (b + 84), .ref (b + 85), .ref (b + 86), .ref (b + 87), .null, .null, .null, .null, .null, .null, .null, .null]) (v := .ref (b + 88)) (ty := (.array .int)) C u_Mod t_Mod_ok n_Mod rfl (Nat.le_of_ble_eq_true rfl) (rx_in t_542 rfl) rfl rfl (by decide +kernel) rfl rfl (pc := 123) d_Mod_init_123 hin2 (by decide) rfl (Nat.le_of_ble_eq_true rfl) ?_
  refine rx_aload_n C.1 (pc := 126) d_Mod_init_126 rfl ?_
  refine rx_bipush C.1 (v := 8) (pc := 127) d_Mod_init_127 (by decide) ?_
  refine rz_newa D b ca (N := 8) C (rx_in t_194 rfl) (pc := 129) d_Mod_init_129 (by decide) rfl (by decide) (Nat.le_of_ble_eq_true rfl) (Nat.le_of_ble_eq_true rfl) ?_
  refine rz_putF D b ca (i := 71) (ci := 7) (k := 22) (fs := [.int 0, .int 0, .int 0, .int 0, .int 0, .ref (b + 72), .ref (b + 73), .ref (b + 74), .ref (b + 75), .ref (b + 76), .ref (b + 77), .ref (b + 78), .ref (b + 79), .ref (b + 80), .ref (b + 81), .ref (b + 82), .ref (b + 83), .ref (b + 84), .ref (b + 85), .ref (b + 86), .ref (b + 87), .ref (b + 88), .null, .null, .null, .null, .null, .null, .null]) (v := .ref (b + 89)) (ty := (.array .int)) C u_Mod t_Mod_ok n_Mod rfl (Nat.le_of_ble_eq_true rfl) (rx_in t_543 rfl) rfl rfl (by decide +kernel) rfl rfl (pc := 131) d_Mod_init_131 hin2 (by decide) rfl (Nat.le_of_ble_eq_true rfl) ?_
  refine rx_aload_n C.1 (pc := 134) d_Mod_init_134 rfl ?_
  refine rx_bipush C.1 (v := 8) (pc := 135) d_Mod_init_135 (by decide) ?_
  refine rz_newa D b ca (N := 8) C (rx_in t_194 rfl) (pc := 137) d_Mod_init_137 (by decide) rfl (by decide) (Nat.le_of_ble_eq_true rfl) (Nat.le_of_ble_eq_true rfl) ?_
  refine rz_putF D b ca (i := 71) (ci := 7) (k := 23) (fs := [.int 0, .int 0, .int 0, .int 0, .int 0, .ref (b + 72), .ref (b + 73), .ref (b + 74), .ref (b + 75), .ref (b + 76), .ref (b + 77), .ref (b + 78), .ref (b + 79), .ref (b + 80), .ref (b + 81), .ref (b + 82), .ref (b + 83), .ref (b + 84), .ref (b + 85), .ref (b + 86), .ref (b + 87), .ref (b + 88), .ref (b + 89), .null, .null, .null, .null, .null, .null]) (v := .ref (b + 90)) (ty := (.array .int)) C u_Mod t_Mod_ok n_Mod rfl (Nat.le_of_ble_eq_true rfl) (rx_in t_544 rfl) rfl rfl (by decide +kernel) rfl rfl (pc := 139) d_Mod_init_139 hin2 (by decide) rfl (Nat.le_of_ble_eq_true rfl) ?_
  refine rx_aload_n C.1 (pc := 142) d_Mod_init_142 rfl ?_
  refine rx_bipush C.1 (v := 8) (pc := 143) d_Mod_init_143 (by decide) ?_
  refine rz_newa D b ca (N := 8) C (rx_in t_194 rfl) (pc := 145) d_Mod_init_145 (by decide) rfl (by decide) (Nat.le_of_ble_eq_true rfl) (Nat.le_of_ble_eq_true rfl) ?_
  refine rz_putF D b ca (i := 71) (ci := 7) (k := 24) (fs := [.int 0, .int 0, .int 0, .int 0, .int 0, .ref (b + 72), .ref (b + 73), .ref (b + 74), .ref (b + 75), .ref (b + 76), .ref (b + 77), .ref (b + 78), .ref (b + 79), .ref (b + 80), .ref (b + 81), .ref (b + 82), .ref (b + 83), .ref (b + 84), .ref (b + 85), .ref (b + 86), .ref (b + 87), .ref (b + 88), .ref (b + 89), .ref (b + 90), .null, .null, .null, .null, .null]) (v := .ref (b + 91)) (ty := (.array .int)) C u_Mod t_Mod_ok n_Mod rfl (Nat.le_of_ble_eq_true rfl) (rx_in t_545 rfl) rfl rfl (by decide +kernel) rfl rfl (pc := 147) d_Mod_init_147 hin2 (by decide) rfl (Nat.le_of_ble_eq_true rfl) ?_
  refine rx_aload_n C.1 (pc := 150) d_Mod_init_150 rfl ?_
  refine rx_iconst C.1 (v := 2) (pc := 151) d_Mod_init_151 (by decide) ?_
  refine rz_newa D b ca (N := 2) C (rx_in t_194 rfl) (pc := 152) d_Mod_init_152 (by decide) rfl (by decide) (Nat.le_of_ble_eq_true rfl) (Nat.le_of_ble_eq_true rfl) ?_
  refine rz_putF D b ca (i := 71) (ci := 7) (k := 25) (fs := [.int 0, .int 0, .int 0, .int 0, .int 0, .ref (b + 72), .ref (b + 73), .ref (b + 74), .ref (b + 75), .ref (b + 76), .ref (b + 77), .ref (b + 78), .ref (b + 79), .ref (b + 80), .ref (b + 81), .ref (b + 82), .ref (b + 83), .ref (b + 84), .ref (b + 85), .ref (b + 86), .ref (b + 87), .ref (b + 88), .ref (b + 89), .ref (b + 90), .ref (b + 91), .null, .null, .null, .null]) (v := .ref (b + 92)) (ty := (.array .int)) C u_Mod t_Mod_ok n_Mod rfl (Nat.le_of_ble_eq_true rfl) (rx_in t_546 rfl) rfl rfl (by decide +kernel) rfl rfl (pc := 154) d_Mod_init_154 hin2 (by decide) rfl (Nat.le_of_ble_eq_true rfl) ?_
  refine rx_aload_n C.1 (pc := 157) d_Mod_init_157 rfl ?_
  refine rx_iconst C.1 (v := 2) (pc := 158) d_Mod_init_158 (by decide) ?_
  refine rz_newa D b ca (N := 2) C (rx_in t_194 rfl) (pc := 159) d_Mod_init_159 (by decide) rfl (by decide) (Nat.le_of_ble_eq_true rfl) (Nat.le_of_ble_eq_true rfl) ?_
  refine rz_putF D b ca (i := 71) (ci := 7) (k := 26) (fs := [.int 0, .int 0, .int 0, .int 0, .int 0, .ref (b + 72), .ref (b + 73), .ref (b + 74), .ref (b + 75), .ref (b + 76), .ref (b + 77), .ref (b + 78), .ref (b + 79), .ref (b + 80), .ref (b + 81), .ref (b + 82), .ref (b + 83), .ref (b + 84), .ref (b + 85), .ref (b + 86), .ref (b + 87), .ref (b + 88), .ref (b + 89), .ref (b + 90), .ref (b + 91), .ref (b + 92), .null, .null, .null]) (v := .ref (b + 93)) (ty := (.array .int)) C u_Mod t_Mod_ok n_Mod rfl (Nat.le_of_ble_eq_true rfl) (rx_in t_547 rfl) rfl rfl (by decide +kernel) rfl rfl (pc := 161) d_Mod_init_161 hin2 (by decide) rfl (Nat.le_of_ble_eq_true rfl) ?_
  refine rx_aload_n C.1 (pc := 164) d_Mod_init_164 rfl ?_
  refine rx_iconst C.1 (v := 2) (pc := 165) d_Mod_init_165 (by decide) ?_
  refine rz_newa D b ca (N := 2) C (rx_in t_194 rfl) (pc := 166) d_Mod_init_166 (by decide) rfl (by decide) (Nat.le_of_ble_eq_true rfl) (Nat.le_of_ble_eq_true rfl) ?_
  refine rz_putF D b ca (i := 71) (ci := 7) (k := 27) (fs := [.int 0, .int 0, .int 0, .int 0, .int 0, .ref (b + 72), .ref (b + 73), .ref (b + 74), .ref (b + 75), .ref (b + 76), .ref (b + 77), .ref (b + 78), .ref (b + 79), .ref (b + 80), .ref (b + 81), .ref (b + 82), .ref (b + 83), .ref (b + 84), .ref (b + 85), .ref (b + 86), .ref (b + 87), .ref (b + 88), .ref (b + 89), .ref (b + 90), .ref (b + 91), .ref (b + 92), .ref (b + 93), .null, .null]) (v := .ref (b + 94)) (ty := (.array .int)) C u_Mod t_Mod_ok n_Mod rfl (Nat.le_of_ble_eq_true rfl) (rx_in t_548 rfl) rfl rfl (by decide +kernel) rfl rfl (pc := 168) d_Mod_init_168 hin2 (by decide) rfl (Nat.le_of_ble_eq_true rfl) ?_
  refine rx_aload_n C.1 (pc := 171) d_Mod_init_171 rfl ?_
  refine rx_iconst C.1 (v := 2) (pc := 172) d_Mod_init_172 (by decide) ?_
  refine rz_newa D b ca (N := 2) C (rx_in t_194 rfl) (pc := 173) d_Mod_init_173 (by decide) rfl (by decide) (Nat.le_of_ble_eq_true rfl) (Nat.le_of_ble_eq_true rfl) ?_
  refine rz_putF D b ca (i := 71) (ci := 7) (k := 28) (fs := [.int 0, .int 0, .int 0, .int 0, .int 0, .ref (b + 72), .ref (b + 73), .ref (b + 74), .ref (b + 75), .ref (b + 76), .ref (b + 77), .ref (b + 78), .ref (b + 79), .ref (b + 80), .ref (b + 81), .ref (b + 82), .ref (b + 83), .ref (b + 84), .ref (b + 85), .ref (b + 86), .ref (b + 87), .ref (b + 88), .ref (b + 89), .ref (b + 90), .ref (b + 91), .ref (b + 92), .ref (b + 93), .ref (b + 94), .null]) (v := .ref (b + 95)) (ty := (.array .int)) C u_Mod t_Mod_ok n_Mod rfl (Nat.le_of_ble_eq_true rfl) (rx_in t_549 rfl) rfl rfl (by decide +kernel) rfl rfl (pc := 175) d_Mod_init_175 hin2 (by decide) rfl (Nat.le_of_ble_eq_true rfl) ?_
  refine rx_aload_n C.1 (pc := 178) d_Mod_init_178 rfl ?_
  refine rx_iload_n C.1 (pc := 179) d_Mod_init_179 rfl ?_
  refine rx_bipush C.1 (v := 6) (pc := 180) d_Mod_init_180 (by decide) ?_
  refine rx_cut2 (jpc := 197) (v := if x < 6 then 20 else (if 60 < x then 20 else x)) (fun hk => ?_) ?_
  ·
    refine rx_icmp_lt C.1 (pc := 182) d_Mod_init_182 (tgt := 195) rfl (fun h1 => ?_) (fun h1 => ?_)
    ·
      refine rx_bipush C.1 (v := 20) (pc := 195) d_Mod_init_195 (by decide) ?_
      rw [if_pos h1] at hk
      exact hk
    ·
      refine rx_iload_n C.1 (pc := 185) d_Mod_init_185 rfl ?_
      refine rx_bipush C.1 (v := 60) (pc := 186) d_Mod_init_186 (by decide) ?_
      refine rx_icmp_gt C.1 (pc := 188) d_Mod_init_188 (tgt := 195) rfl (fun h2 => ?_) (fun h2 => ?_)
      ·
        refine rx_bipush C.1 (v := 20) (pc := 195) d_Mod_init_195 (by decide) ?_
        rw [if_neg h1, if_pos h2] at hk
        exact hk
      ·
        refine rx_iload_n C.1 (pc := 191) d_Mod_init_191 rfl ?_
        refine rx_goto C.1 (pc := 192) d_Mod_init_192 (tgt := 197) rfl ?_
        rw [if_neg h1, if_neg h2] at hk
        exact hk
  refine rz_putF D b ca (i := 71) (ci := 7) (k := 0) (fs := [.int 0, .int 0, .int 0, .int 0, .int 0, .ref (b + 72), .ref (b + 73), .ref (b + 74), .ref (b + 75), .ref (b + 76), .ref (b + 77), .ref (b + 78), .ref (b + 79), .ref (b + 80), .ref (b + 81), .ref (b + 82), .ref (b + 83), .ref (b + 84), .ref (b + 85), .ref (b + 86), .ref (b + 87), .ref (b + 88), .ref (b + 89), .ref (b + 90), .ref (b + 91), .ref (b + 92), .ref (b + 93), .ref (b + 94), .ref (b + 95)]) (v := .int (if x < 6 then 20 else (if 60 < x then 20 else x) : Int32)) (ty := .int) C u_Mod t_Mod_ok n_Mod rfl (Nat.le_of_ble_eq_true rfl) (rx_in t_521 rfl) rfl rfl (by decide +kernel) rfl rfl (pc := 197) d_Mod_init_197 hin2 (by decide) rfl (Nat.le_of_ble_eq_true rfl) ?_
  refine rx_aload_n C.1 (pc := 200) d_Mod_init_200 rfl ?_
  refine rx_iload_n C.1 (pc := 201) d_Mod_init_201 rfl ?_
  refine rx_bipush C.1 (v := 6) (pc := 202) d_Mod_init_202 (by decide) ?_
  refine rx_cut2 (jpc := 219) (v := if y < 6 then 30 else (if 60 < y then 30 else y)) (fun hk => ?_) ?_
  ·
    refine rx_icmp_lt C.1 (pc := 204) d_Mod_init_204 (tgt := 217) rfl (fun h3 => ?_) (fun h3 => ?_)
    ·
      refine rx_bipush C.1 (v := 30) (pc := 217) d_Mod_init_217 (by decide) ?_
      rw [if_pos h3] at hk
      exact hk
    ·
      refine rx_iload_n C.1 (pc := 207) d_Mod_init_207 rfl ?_
      refine rx_bipush C.1 (v := 60) (pc := 208) d_Mod_init_208 (by decide) ?_
      refine rx_icmp_gt C.1 (pc := 210) d_Mod_init_210 (tgt := 217) rfl (fun h4 => ?_) (fun h4 => ?_)
      ·
        refine rx_bipush C.1 (v := 30) (pc := 217) d_Mod_init_217 (by decide) ?_
        rw [if_neg h3, if_pos h4] at hk
        exact hk
      ·
        refine rx_iload_n C.1 (pc := 213) d_Mod_init_213 rfl ?_
        refine rx_goto C.1 (pc := 214) d_Mod_init_214 (tgt := 219) rfl ?_
        rw [if_neg h3, if_neg h4] at hk
        exact hk
  refine rz_putF D b ca (i := 71) (ci := 7) (k := 1) (fs := [.int (if x < 6 then 20 else (if 60 < x then 20 else x) : Int32), .int 0, .int 0, .int 0, .int 0, .ref (b + 72), .ref (b + 73), .ref (b + 74), .ref (b + 75), .ref (b + 76), .ref (b + 77), .ref (b + 78), .ref (b + 79), .ref (b + 80), .ref (b + 81), .ref (b + 82), .ref (b + 83), .ref (b + 84), .ref (b + 85), .ref (b + 86), .ref (b + 87), .ref (b + 88), .ref (b + 89), .ref (b + 90), .ref (b + 91), .ref (b + 92), .ref (b + 93), .ref (b + 94), .ref (b + 95)]) (v := .int (if y < 6 then 30 else (if 60 < y then 30 else y) : Int32)) (ty := .int) C u_Mod t_Mod_ok n_Mod rfl (Nat.le_of_ble_eq_true rfl) (rx_in t_522 rfl) rfl rfl (by decide +kernel) rfl rfl (pc := 219) d_Mod_init_219 hin2 (by decide) rfl (Nat.le_of_ble_eq_true rfl) ?_
  refine rx_aload_n C.1 (pc := 222) d_Mod_init_222 rfl ?_
  refine rx_iload_n C.1 (pc := 223) d_Mod_init_223 rfl ?_
  refine rx_iconst C.1 (v := 1) (pc := 224) d_Mod_init_224 (by decide) ?_
  refine rx_cut2 (jpc := 233) (v := if z = 1 then 1 else 2) (fun hk => ?_) ?_
  ·
    refine rx_icmp_ne C.1 (pc := 225) d_Mod_init_225 (tgt := 232) rfl (fun h5 => ?_) (fun h5 => ?_)
    ·
      refine rx_iconst C.1 (v := 2) (pc := 232) d_Mod_init_232 (by decide) ?_
      rw [if_neg h5] at hk
      exact hk
    ·
      refine rx_iconst C.1 (v := 1) (pc := 228) d_Mod_init_228 (by decide) ?_
      refine rx_goto C.1 (pc := 229) d_Mod_init_229 (tgt := 233) rfl ?_
      rw [if_pos h5] at hk
      exact hk
  refine rz_putF D b ca (i := 71) (ci := 7) (k := 2) (fs := [.int (if x < 6 then 20 else (if 60 < x then 20 else x) : Int32), .int (if y < 6 then 30 else (if 60 < y then 30 else y) : Int32), .int 0, .int 0, .int 0, .ref (b + 72), .ref (b + 73), .ref (b + 74), .ref (b + 75), .ref (b + 76), .ref (b + 77), .ref (b + 78), .ref (b + 79), .ref (b + 80), .ref (b + 81), .ref (b + 82), .ref (b + 83), .ref (b + 84), .ref (b + 85), .ref (b + 86), .ref (b + 87), .ref (b + 88), .ref (b + 89), .ref (b + 90), .ref (b + 91), .ref (b + 92), .ref (b + 93), .ref (b + 94), .ref (b + 95)]) (v := .int (if z = 1 then 1 else 2 : Int32)) (ty := .int) C u_Mod t_Mod_ok n_Mod rfl (Nat.le_of_ble_eq_true rfl) (rx_in t_523 rfl) rfl rfl (by decide +kernel) rfl rfl (pc := 233) d_Mod_init_233 hin2 (by decide) rfl (Nat.le_of_ble_eq_true rfl) ?_
  refine rx_iconst C.1 (v := 0) (pc := 236) d_Mod_init_236 (by decide) ?_
  refine rx_istore C.1 (pc := 237) d_Mod_init_237 (by decide) ?_
  refine rx_iload C.1 (pc := 239) d_Mod_init_239 rfl ?_
  refine rx_iconst C.1 (v := 2) (pc := 241) d_Mod_init_241 (by decide) ?_
  refine rx_icmp_ge C.1 (pc := 242) d_Mod_init_242 (tgt := 268) rfl (fun h9 => absurd h9 (by decide)) (fun _ => ?_)
  refine rx_aload_n C.1 (pc := 245) d_Mod_init_245 rfl ?_
  refine rz_get D b ca (i := 71) (ci := 7) (k := 11) (fs := [.int (if x < 6 then 20 else (if 60 < x then 20 else x) : Int32), .int (if y < 6 then 30 else (if 60 < y then 30 else y) : Int32), .int (if z = 1 then 1 else 2 : Int32), .int 0, .int 0, .ref (b + 72), .ref (b + 73), .ref (b + 74), .ref (b + 75), .ref (b + 76), .ref (b + 77), .ref (b + 78), .ref (b + 79), .ref (b + 80), .ref (b + 81), .ref (b + 82), .ref (b + 83), .ref (b + 84), .ref (b + 85), .ref (b + 86), .ref (b + 87), .ref (b + 88), .ref (b + 89), .ref (b + 90), .ref (b + 91), .ref (b + 92), .ref (b + 93), .ref (b + 94), .ref (b + 95)]) (v := .ref (b + 78)) C u_Mod rfl (Nat.le_of_ble_eq_true rfl) (rx_in t_532 rfl) (pc := 246) d_Mod_init_246 (by decide) rfl rfl ?_
  refine rx_iload C.1 (pc := 249) d_Mod_init_249 rfl ?_
  refine rx_ldc C.1 (v := 2147483647) k_Mod_92 (pc := 251) d_Mod_init_251 ?_
  refine rz_iast D b ca (i := 78) (N := 2) (f := (fun _ => 0)) C (pc := 253) d_Mod_init_253 (by decide) rfl (vp_in_iff.mpr (by decide)) ?_
  refine rx_aload_n C.1 (pc := 254) d_Mod_init_254 rfl ?_
  refine rz_get D b ca (i := 71) (ci := 7) (k := 12) (fs := [.int (if x < 6 then 20 else (if 60 < x then 20 else x) : Int32), .int (if y < 6 then 30 else (if 60 < y then 30 else y) : Int32), .int (if z = 1 then 1 else 2 : Int32), .int 0, .int 0, .ref (b + 72), .ref (b + 73), .ref (b + 74), .ref (b + 75), .ref (b + 76), .ref (b + 77), .ref (b + 78), .ref (b + 79), .ref (b + 80), .ref (b + 81), .ref (b + 82), .ref (b + 83), .ref (b + 84), .ref (b + 85), .ref (b + 86), .ref (b + 87), .ref (b + 88), .ref (b + 89), .ref (b + 90), .ref (b + 91), .ref (b + 92), .ref (b + 93), .ref (b + 94), .ref (b + 95)]) (v := .ref (b + 79)) C u_Mod rfl (Nat.le_of_ble_eq_true rfl) (rx_in t_533 rfl) (pc := 255) d_Mod_init_255 (by decide) rfl rfl ?_
  refine rx_iload C.1 (pc := 258) d_Mod_init_258 rfl ?_
  refine rx_iconst C.1 (v := (-1)) (pc := 260) d_Mod_init_260 (by decide) ?_
  refine rz_iast D b ca (i := 79) (N := 2) (f := (fun _ => 0)) C (pc := 261) d_Mod_init_261 (by decide) rfl (vp_in_iff.mpr (by decide)) ?_
  refine rx_iinc C.1 (v := 1) (pc := 262) d_Mod_init_262 rfl (by decide) (by decide) ?_
  refine rx_goto C.1 (pc := 265) d_Mod_init_265 (tgt := 239) rfl ?_
  refine rx_iload C.1 (pc := 239) d_Mod_init_239 rfl ?_
  refine rx_iconst C.1 (v := 2) (pc := 241) d_Mod_init_241 (by decide) ?_
  refine rx_icmp_ge C.1 (pc := 242) d_Mod_init_242 (tgt := 268) rfl (fun h9 => absurd h9 (by decide)) (fun _ => ?_)
  refine rx_aload_n C.1 (pc := 245) d_Mod_init_245 rfl ?_
  refine rz_get D b ca (i := 71) (ci := 7) (k := 11) (fs := [.int (if x < 6 then 20 else (if 60 < x then 20 else x) : Int32), .int (if y < 6 then 30 else (if 60 < y then 30 else y) : Int32), .int (if z = 1 then 1 else 2 : Int32), .int 0, .int 0, .ref (b + 72), .ref (b + 73), .ref (b + 74), .ref (b + 75), .ref (b + 76), .ref (b + 77), .ref (b + 78), .ref (b + 79), .ref (b + 80), .ref (b + 81), .ref (b + 82), .ref (b + 83), .ref (b + 84), .ref (b + 85), .ref (b + 86), .ref (b + 87), .ref (b + 88), .ref (b + 89), .ref (b + 90), .ref (b + 91), .ref (b + 92), .ref (b + 93), .ref (b + 94), .ref (b + 95)]) (v := .ref (b + 78)) C u_Mod rfl (Nat.le_of_ble_eq_true rfl) (rx_in t_532 rfl) (pc := 246) d_Mod_init_246 (by decide) rfl rfl ?_
  refine rx_iload C.1 (pc := 249) d_Mod_init_249 rfl ?_
  refine rx_ldc C.1 (v := 2147483647) k_Mod_92 (pc := 251) d_Mod_init_251 ?_
  refine rz_iast D b ca (i := 78) (N := 2) (f := (upd (fun _ => 0) (Int32.toNatClampNeg 0) 2147483647)) C (pc := 253) d_Mod_init_253 (by decide) rfl (vp_in_iff.mpr (by decide)) ?_
  refine rx_aload_n C.1 (pc := 254) d_Mod_init_254 rfl ?_
  refine rz_get D b ca (i := 71) (ci := 7) (k := 12) (fs := [.int (if x < 6 then 20 else (if 60 < x then 20 else x) : Int32), .int (if y < 6 then 30 else (if 60 < y then 30 else y) : Int32), .int (if z = 1 then 1 else 2 : Int32), .int 0, .int 0, .ref (b + 72), .ref (b + 73), .ref (b + 74), .ref (b + 75), .ref (b + 76), .ref (b + 77), .ref (b + 78), .ref (b + 79), .ref (b + 80), .ref (b + 81), .ref (b + 82), .ref (b + 83), .ref (b + 84), .ref (b + 85), .ref (b + 86), .ref (b + 87), .ref (b + 88), .ref (b + 89), .ref (b + 90), .ref (b + 91), .ref (b + 92), .ref (b + 93), .ref (b + 94), .ref (b + 95)]) (v := .ref (b + 79)) C u_Mod rfl (Nat.le_of_ble_eq_true rfl) (rx_in t_533 rfl) (pc := 255) d_Mod_init_255 (by decide) rfl rfl ?_
  refine rx_iload C.1 (pc := 258) d_Mod_init_258 rfl ?_
  refine rx_iconst C.1 (v := (-1)) (pc := 260) d_Mod_init_260 (by decide) ?_
  refine rz_iast D b ca (i := 79) (N := 2) (f := (upd (fun _ => 0) (Int32.toNatClampNeg 0) (-1))) C (pc := 261) d_Mod_init_261 (by decide) rfl (vp_in_iff.mpr (by decide)) ?_
  refine rx_iinc C.1 (v := 2) (pc := 262) d_Mod_init_262 rfl (by decide) (by decide) ?_
  refine rx_goto C.1 (pc := 265) d_Mod_init_265 (tgt := 239) rfl ?_
  refine rx_iload C.1 (pc := 239) d_Mod_init_239 rfl ?_
  refine rx_iconst C.1 (v := 2) (pc := 241) d_Mod_init_241 (by decide) ?_
  refine rx_icmp_ge C.1 (pc := 242) d_Mod_init_242 (tgt := 268) rfl (fun _ => ?_) (fun h9 => absurd (by decide) h9)
  exact rz_retE D b ca C (pc := 268) d_Mod_init_268 (by first | rfl | (unfold fz_Mod_71; rfl))
