theorem t_0 : (Jvm.Cond.initialized "RoamingNetLaw") ∈ lw_tbl := List.mem_append_right _ (List.mem_of_getElem? (i := 0) (by decide +kernel))
theorem t_10 : (Jvm.Cond.classLink "RoamingNetLaw" (7 : Nat) "RoamingNet") ∈ lw_tbl := List.mem_append_right _ (List.mem_of_getElem? (i := 10) (by decide +kernel))
theorem t_11 : (Jvm.Cond.instantiable "RoamingNet" (6 : Nat)) ∈ lw_tbl := List.mem_append_right _ (List.mem_of_getElem? (i := 11) (by decide +kernel))
theorem t_12 : (Jvm.Cond.methodLink "RoamingNetLaw" (15 : Nat) ({ cls := "RoamingNet", name := "<init>", desc := "(III)V" } : Jvm.MethodName)) ∈ lw_tbl := List.mem_append_right _ (List.mem_of_getElem? (i := 12) (by decide +kernel))
theorem t_511 : (Jvm.Cond.methodLink "RoamingNetLaw" (9 : Nat) ({ cls := "RoamingNetLaw", name := "cell", desc := "([II)I" } : Jvm.MethodName)) ∈ lw_tbl := List.mem_append_right _ (List.mem_of_getElem? (i := 511) (by decide +kernel))
theorem t_512 : (Jvm.Cond.static ({ cls := "RoamingNetLaw", name := "cell", desc := "([II)I" } : Jvm.MethodName)) ∈ lw_tbl := List.mem_append_right _ (List.mem_of_getElem? (i := 512) (by decide +kernel))
theorem t_513 : (Jvm.Cond.code ({ cls := "RoamingNetLaw", name := "cell", desc := "([II)I" } : Jvm.MethodName) method_2_code (2 : Nat) (Option.some Jvm.ClassFile.FieldType.int)) ∈ lw_tbl := List.mem_append_right _ (List.mem_of_getElem? (i := 513) (by decide +kernel))
theorem t_514 : (Jvm.Cond.classLink "RoamingNetLaw" (18 : Nat) "RoamingNetModel") ∈ lw_tbl := List.mem_append_right _ (List.mem_of_getElem? (i := 514) (by decide +kernel))
theorem t_515 : (Jvm.Cond.instantiable "RoamingNetModel" (29 : Nat)) ∈ lw_tbl := List.mem_append_right _ (List.mem_of_getElem? (i := 515) (by decide +kernel))
theorem t_516 : (Jvm.Cond.methodLink "RoamingNetLaw" (20 : Nat) ({ cls := "RoamingNetModel", name := "<init>", desc := "(III)V" } : Jvm.MethodName)) ∈ lw_tbl := List.mem_append_right _ (List.mem_of_getElem? (i := 516) (by decide +kernel))
theorem d_Law_cell_0 : decode b_Law_cell 0 = .ok (.iload_n 1, 1) := by decide +kernel
theorem d_Law_cell_1 : decode b_Law_cell 1 = .ok (.aload_n 0, 1) := by decide +kernel
theorem d_Law_cell_2 : decode b_Law_cell 2 = .ok (.arraylength, 1) := by decide +kernel
theorem d_Law_cell_3 : decode b_Law_cell 3 = .ok (.if_icmp .ge 9, 3) := by decide +kernel
theorem d_Law_cell_6 : decode b_Law_cell 6 = .ok (.aload_n 0, 1) := by decide +kernel
theorem d_Law_cell_7 : decode b_Law_cell 7 = .ok (.iload_n 1, 1) := by decide +kernel
theorem d_Law_cell_8 : decode b_Law_cell 8 = .ok (.iaload, 1) := by decide +kernel
theorem d_Law_cell_9 : decode b_Law_cell 9 = .ok (.goto 4, 3) := by decide +kernel
theorem d_Law_cell_12 : decode b_Law_cell 12 = .ok (.iconst 0, 1) := by decide +kernel
theorem d_Law_cell_13 : decode b_Law_cell 13 = .ok (.ireturn, 1) := by decide +kernel
def lw_cv (xs : Nat → Int32) (L : Nat) (k : Int32) : Int32 := if Int32.ofNat L ≤ k then 0 else xs k.toNatClampNeg
def lx_Pc (b0 L : Nat) (xs : Nat → Int32) (k : Int32) : Array Value → State → Prop := fun a U => a = #[.ref b0, .int k] ∧ va_X b0 L xs U U.heap
theorem c_Law_cell (l : Launch) {b0 L : Nat} {xs : Nat → Int32} {k : Int32} (hk : 0 ≤ k.toInt) (hL : L ≤ 3587) : Met l y_Law_cell (.code y_Law_cell b_Law_cell 2 (some .int) :: rx_W) (rx_rm 0) (lx_Pc b0 L xs k) (rx_QS (.int (lw_cv xs L k))) 0 0 (fun _ => False) := by
  refine Met.ofW (cc := b_Law_cell) (maxL := 2) (ret := some .int) (by decide) rfl ?_
  intro p e s mm args below meth c s₁ B hml hvv
  obtain ⟨rfl, hX⟩ := hvv
  have hts := atoms_spec (ws := .code y_Law_cell b_Law_cell 2 (some .int) :: rx_W) B.pre
  have C : rx_Cx p s mm #[Value.ref b0, Value.int k] meth c R_Law b_Law_cell 2 (some .int) := ⟨B.exec, B.bytes, hml, findClass_of_methodNamed B.named, fun w hw => hts w (List.mem_cons_of_mem _ hw), B.notSynchronized, B.returns⟩
  have hbl : b0 < s.heap.size := by
    obtain ⟨scr, h1, -⟩ := hX
    exact (Array.getElem?_eq_some_iff.mp h1).1
  have hbA : ¬ (fun _ : Nat => False) b0 := fun h => h
  have X0 : rx_X p l e (rx_rm 0) s mm #[Value.ref b0, Value.int k] below meth c (fun _ => False) s.heap 0 0 (MQ below (rx_QS (.int (lw_cv xs L k))) #[Value.ref b0, Value.int k] s 0 0 (fun _ => False)) 2 (fun H => H = s.heap) 0 [(0, .ref b0), (1, .int k)] [] := by
    have C := And.intro C True.intro
    refine rx_iload_n C.1 (pc := 0) d_Law_cell_0 rfl ?_
    refine rx_aload_n C.1 (pc := 1) d_Law_cell_1 rfl ?_
    refine rx_slen C.1 hX hbl hbA (pc := 2) d_Law_cell_2 ?_
    refine rx_icmp_ge C.1 (pc := 3) d_Law_cell_3 (tgt := 12) rfl (fun h1 => ?_) (fun h1 => ?_)
    · refine rx_iconst C.1 (v := 0) (pc := 12) d_Law_cell_12 (by decide) ?_
      exact rx_iretS C.1 (pc := 13) d_Law_cell_13 (by rw [lw_cv, if_pos h1])
    · refine rx_aload_n C.1 (pc := 6) d_Law_cell_6 rfl ?_
      refine rx_iload_n C.1 (pc := 7) d_Law_cell_7 rfl ?_
      have hin : vp_in k L := by
        have eL : (Int32.ofNat L).toInt = (L : Int) := nI_toInt (by omega)
        rw [rx_leI, eL] at h1
        exact rx_vinI hk (by omega)
      refine rx_sld C.1 hX hbl hbA hin (pc := 8) d_Law_cell_8 ?_
      refine rx_goto C.1 (pc := 9) d_Law_cell_9 (tgt := 13) rfl ?_
      exact rx_iretS C.1 (pc := 13) d_Law_cell_13 (by rw [lw_cv, if_neg h1])
  show W p l e (rx_rm 0) s mm #[Value.ref b0, Value.int k] below meth c s.heap [] 0 0 _ (entryFrame mm ([Value.ref b0, Value.int k] : List Value).toArray 2)
  rw [lg_entry_eq]
  exact X0 s.heap [] _ rfl va_S.rf (rx_has.entry [.ref b0, .int k] (Nat.le_of_ble_eq_true rfl) (fun j w hj => by
    have h1 := rx_lk_mem hj
    have h2 : (j, w) ∈ [(0, Value.ref b0), (1, Value.int k)] := h1
    rcases List.mem_cons.mp h2 with h | h
    · cases h; rfl
    · rcases List.mem_cons.mp h with h | h
      · cases h; rfl
      · cases h))
theorem rx_callX {p : Program} {l : Launch} {e : Env} {R : Room} {s : State} {m : MethodId} {args : Array Value} {below : List Frame} {meth : Method} {c : Code} {cells slots : Nat} {Q : State → Prop} {Φ : Heap → Prop} {lo : List (Nat × Value)} {rest : List Value} {pc b b0 L : Nat} {xs : Nat → Int32} {k : Int32} {cc : ByteArray} {ret : Option FieldType} (C : rx_Cx p s m args meth c R_Law cc 4 ret) (hX : va_X b0 L xs s s.heap) (hbl : b0 < s.heap.size) (hbA : ¬ b ≤ b0) (hk : 0 ≤ k.toInt) (hL : L ≤ 3587) (hd : decode cc pc = .ok (.invokestatic 9, 3)) (hR : 1 ≤ R.frames ∧ 8 + (2 + 11) + 0 ≤ R.locals) (hf : cells ≤ R.cells ∧ slots ≤ R.slots) (hW : (rest.map fun v => v.category).sum ≤ 8)
    (kk : rx_X p l e R s m args below meth c (fun q => b ≤ q) s.heap cells slots Q 4 Φ (pc + 3) lo (.int (lw_cv xs L k) :: rest)) : rx_X p l e R s m args below meth c (fun q => b ≤ q) s.heap cells slots Q 4 Φ pc lo (.int k :: .ref b0 :: rest) :=
  fun H locs ls hP hS hl => rx_afterS (va_runS (As := [.ref b0, .int k]) (rest := rest) (Ts := rx_W) ⟨C.1, C.2.1, C.2.2.1, C.2.2.2.1, C.2.2.2.2.1⟩ (c_Law_cell l hk hL) (rx_cwS (rm := rx_rm 0) (n := 2) C (rx_in t_513 rfl) (rx_in t_511 rfl) (rx_in t_512 rfl) (rx_in t_0 rfl) (by decide +kernel) ⟨rfl, rfl⟩ hR) ⟨fun a U g mk q => ⟨q.1, va_X.moved (u := U) (U := U.calling g mk a) (Vm.Alike.refl U.vm) q.2⟩, fun U hU hWm => ⟨rfl, va_X.moved (b := b0) (L := L) (xs := xs) (u := s) (U := U) (H := U.heap) hWm.alike (by rw [hU]; exact hX.kept (hS.2.1 b0 hbl hbA))⟩⟩ rfl rfl hl.size rfl (lv_room hW) hd hf) (kk H locs ls hP hS hl)
set_option maxHeartbeats 4000000 in
set_option maxRecDepth 100000 in
theorem lw_begin (l : Launch) (D : va_G) (b : Nat) (ca : Nat → ClassId) {p : Program} {e : Env} {s : State} {mm : MethodId} {below : List Frame} {meth : Method} {c : Code} {Q : State → Prop} {b0 L : Nat} {xs : Nat → Int32} {Rel : Nat → rMem → Prop} (hok : lw_ok Rel) (h0 : ∀ x y z : Int32, Rel 0 (rx_s0 x y z)) (C : rx_Cw p s mm #[.ref b0] meth c R_Law code 4 (some .boolean) (rx_fin D b ca)) (hX : va_X b0 L xs s s.heap) (hbl : b0 < s.heap.size) (hbA : ¬ b ≤ b0) (hL : L ≤ 3587)
    (kx : ∀ (i : Int32) (σ : rMem), rx_X p l e room_1 s mm #[.ref b0] below meth c (rg_O (rx_fin D b ca)) s.heap 96 993 Q 4 (rx_m (rx_fin D b ca) σ) 606 [(3, .int i), (2, .ref (rg_A (rx_fin D b ca) 71)), (1, .ref (rg_A (rx_fin D b ca) 0)), (0, .ref b0)] []) :
    rx_X p l e room_1 s mm #[.ref b0] below meth c (fun q => b ≤ q) s.heap 0 0 Q 4 (rz_m D b 0 (fun _ => .inr (0, []))) 0 [(0, .ref b0)] [] := by
  refine rz_new D b ca (ci := 0) (fs := [.null, .null, .null, .null, .null, .null]) C u_Net t_Net_ok rfl (rx_in t_10 rfl) (rx_in t_11 rfl) (rx_in t_1 rfl) o_Net (pc := 0) d_Law_law_0 (Nat.le_of_ble_eq_true rfl) (Nat.le_of_ble_eq_true rfl) ?_
  refine rx_dup C.1 (pc := 3) d_Law_law_3 rfl ?_
  refine rx_aload_n C.1 (pc := 4) d_Law_law_4 rfl ?_
  refine rx_iconst C.1 (v := 0) (pc := 5) d_Law_law_5 (by decide) ?_
  refine rx_callX C.1 hX hbl hbA (by decide) hL (pc := 6) d_Law_law_6 ⟨Nat.le_of_ble_eq_true rfl, Nat.le_of_ble_eq_true rfl⟩ ⟨Nat.le_of_ble_eq_true rfl, Nat.le_of_ble_eq_true rfl⟩ (Nat.le_of_ble_eq_true rfl) ?_
  refine rx_aload_n C.1 (pc := 9) d_Law_law_9 rfl ?_
  refine rx_iconst C.1 (v := 1) (pc := 10) d_Law_law_10 (by decide) ?_
  refine rx_callX C.1 hX hbl hbA (by decide) hL (pc := 11) d_Law_law_11 ⟨Nat.le_of_ble_eq_true rfl, Nat.le_of_ble_eq_true rfl⟩ ⟨Nat.le_of_ble_eq_true rfl, Nat.le_of_ble_eq_true rfl⟩ (Nat.le_of_ble_eq_true rfl) ?_
  refine rx_aload_n C.1 (pc := 14) d_Law_law_14 rfl ?_
  refine rx_iconst C.1 (v := 2) (pc := 15) d_Law_law_15 (by decide) ?_
  refine rx_callX C.1 hX hbl hbA (by decide) hL (pc := 16) d_Law_law_16 ⟨Nat.le_of_ble_eq_true rfl, Nat.le_of_ble_eq_true rfl⟩ ⟨Nat.le_of_ble_eq_true rfl, Nat.le_of_ble_eq_true rfl⟩ (Nat.le_of_ble_eq_true rfl) ?_
  refine rz_callI D b ca (i := 0) (nA := 3) C w_Net_init (rx_in t_12 rfl) z_Net_init (rx_in t_1 rfl) (by decide +kernel) rfl (pc := 19) d_Law_law_19 (cz_Net_0 l D b ca rfl) ⟨Nat.le_of_ble_eq_true rfl, Nat.le_of_ble_eq_true rfl⟩ ⟨Nat.le_of_ble_eq_true rfl, Nat.le_of_ble_eq_true rfl⟩ rfl rfl (Nat.le_of_ble_eq_true rfl) ?_
  refine rx_astore_n C.1 (pc := 22) d_Law_law_22 (by decide) ?_
  refine rz_new D b ca (ci := 7) (fs := [.int 0, .int 0, .int 0, .int 0, .int 0, .null, .null, .null, .null, .null, .null, .null, .null, .null, .null, .null, .null, .null, .null, .null, .null, .null, .null, .null, .null, .null, .null, .null, .null]) C u_Mod t_Mod_ok rfl (rx_in t_514 rfl) (rx_in t_515 rfl) (rx_in t_8 rfl) o_Mod (pc := 23) d_Law_law_23 (Nat.le_of_ble_eq_true rfl) (Nat.le_of_ble_eq_true rfl) ?_
  refine rx_dup C.1 (pc := 26) d_Law_law_26 rfl ?_
  refine rx_aload_n C.1 (pc := 27) d_Law_law_27 rfl ?_
  refine rx_iconst C.1 (v := 0) (pc := 28) d_Law_law_28 (by decide) ?_
  refine rx_callX C.1 hX hbl hbA (by decide) hL (pc := 29) d_Law_law_29 ⟨Nat.le_of_ble_eq_true rfl, Nat.le_of_ble_eq_true rfl⟩ ⟨Nat.le_of_ble_eq_true rfl, Nat.le_of_ble_eq_true rfl⟩ (Nat.le_of_ble_eq_true rfl) ?_
  refine rx_aload_n C.1 (pc := 32) d_Law_law_32 rfl ?_
  refine rx_iconst C.1 (v := 1) (pc := 33) d_Law_law_33 (by decide) ?_
  refine rx_callX C.1 hX hbl hbA (by decide) hL (pc := 34) d_Law_law_34 ⟨Nat.le_of_ble_eq_true rfl, Nat.le_of_ble_eq_true rfl⟩ ⟨Nat.le_of_ble_eq_true rfl, Nat.le_of_ble_eq_true rfl⟩ (Nat.le_of_ble_eq_true rfl) ?_
  refine rx_aload_n C.1 (pc := 37) d_Law_law_37 rfl ?_
  refine rx_iconst C.1 (v := 2) (pc := 38) d_Law_law_38 (by decide) ?_
  refine rx_callX C.1 hX hbl hbA (by decide) hL (pc := 39) d_Law_law_39 ⟨Nat.le_of_ble_eq_true rfl, Nat.le_of_ble_eq_true rfl⟩ ⟨Nat.le_of_ble_eq_true rfl, Nat.le_of_ble_eq_true rfl⟩ (Nat.le_of_ble_eq_true rfl) ?_
  refine rz_callI D b ca (i := 71) (nA := 3) C w_Mod_init (rx_in t_516 rfl) z_Mod_init (rx_in t_8 rfl) (by decide +kernel) rfl (pc := 42) d_Law_law_42 (cz_Mod_71 l D b ca rfl) ⟨Nat.le_of_ble_eq_true rfl, Nat.le_of_ble_eq_true rfl⟩ ⟨Nat.le_of_ble_eq_true rfl, Nat.le_of_ble_eq_true rfl⟩ rfl rfl (Nat.le_of_ble_eq_true rfl) ?_
  refine rx_astore_n C.1 (pc := 45) d_Law_law_45 (by decide) ?_
  refine rx_iconst C.1 (v := 3) (pc := 46) d_Law_law_46 (by decide) ?_
  refine rx_istore_n C.1 (pc := 47) d_Law_law_47 (by decide) ?_
  refine rx_loc C.1 (rx_sub_all (lo' := [(3, .int (nI (3 + 7 * 0))), (2, .ref (rg_A (rx_fin D b ca) 71)), (1, .ref (rg_A (rx_fin D b ca) 0)), (0, .ref b0)]) ⟨rfl, rfl, rfl, rfl, trivial⟩) ?_
  have hl := lw_loop l D b ca hok C hX hbl hbA hL (fun j σ => kx _ σ) 512 0 (rx_s0 (lw_cv xs L 0) (lw_cv xs L 1) (lw_cv xs L 2)) rfl (h0 _ _ _)
  intro H locs ls hP hS hls
  exact hl H locs ls (rz_fin (se_all b ca (lw_cv xs L 0) (lw_cv xs L 1) (lw_cv xs L 2)) hP (rx_s0_SI _ _ _)) hS hls
