section RXW
variable {p : Program} {l : Launch} {e : Env} {R : Room} {s : State} {m : MethodId} {args : Array Value} {below : List Frame} {meth : Method} {c : Code} {H0 : Heap} {cells slots : Nat} {Q : State → Prop} {nL : Nat} {lo : List (Nat × Value)} {rest st : List Value} {own : String} {cc : ByteArray} {ret : Option FieldType}
/-- a static method that touches no cell, called over up to twelve words of the caller's stack -/
theorem rx_callSw {O : Nat → Prop} {Φ : Heap → Prop} {y : MethodName} {b : ByteArray} {nLy idx n pc : Nat} {rety : Option FieldType} {rm : Room} {As : List Value} {v : Value} (C : rx_Cx p s m args meth c own cc nL ret) (hcode : Cond.code y b nLy rety ∈ rx_W) (hlink : Cond.methodLink own idx y ∈ rx_W) (hstat : Cond.static y ∈ rx_W) (hini : Cond.initialized y.cls ∈ rx_W)
    (hd : y.cls ≠ "java/lang/invoke/MethodHandle" ∧ y.cls ≠ "java/lang/invoke/VarHandle" ∧ (parseMethodDescriptor y.desc).map (fun d => d.parameters.length) = some n) (hdg : decode cc pc = .ok (.invokestatic idx, 3))
    (hM : rx_S l y b nLy rety rm As v) (hrm : rm.cells = 0 ∧ rm.slots = 0) (hR : rm.frames + 1 ≤ R.frames ∧ 12 + (nLy + 11) + rm.locals ≤ R.locals) (hf : cells ≤ R.cells ∧ slots ≤ R.slots) (hn : As.length = n) (hst : st = As.reverse ++ rest) (hW : (rest.map fun v => v.category).sum ≤ 12)
    (k : rx_X p l e R s m args below meth c O H0 cells slots Q nL Φ (pc + 3) lo (v :: rest)) : rx_X p l e R s m args below meth c O H0 cells slots Q nL Φ pc lo st := by
  intro H locs ls hP hS hl
  have hts := C.2.2.2.2.1
  have hb : Back l R p e below s args y 3 12 (PreOf R 0 0 (fun a _ => a = As.toArray)) (PostOf (rx_QS v) 0 0 (fun _ => False)) :=
    back_of (bytes := b) (maxL := nLy) (ret := rety) hM (fun _ _ _ _ q => q) hrm.1 hrm.2 hR.1 hR.2 (pay_in hts (rx_goodIn0 hcode)) List.mem_cons_self (fun a' U hW => word_at hW (rx_good _ hini) (hts _ hini))
  intro T hT X
  have hlen : ∀ sig, parseMethodDescriptor y.desc = some sig → As.length = sig.parameters.length := fun sig h => by
    have h2 := hd.2.2
    rw [h] at h2
    exact hn.trans (Option.some.inj h2).symm
  obtain ⟨w, vm₁, ⟨U', l2, c2, s2⟩, hW₁, X', ⟨g', mk, t, L, e1, e2, hq, h1, hL, h2, h3⟩, st'⟩ := callS X C.1 (bytes := b) (maxL := nLy) (ret := rety) C.2.2.2.1 (hts _ hlink) (hts _ hstat) (hts _ hini) (hts _ hcode) ⟨hd.1, hd.2.1⟩ hb (g := F0 m pc ls st) rfl (hl.size.trans C.2.2.1.symm) (argsL := As) (rest := rest) hlen hst (by simpa [JFrame.monitorRoom] using hW) (by rw [C.2.1]; exact hdg)
    (fun vm₁ hW₁ => ⟨hf.1, hf.2, rfl⟩)
  dsimp only [Pt.U, Pt.locs, Pt.cells, Pt.slots] at X' e1 e2 h1 h2 h3 st'
  subst h1; subst h2; subst h3
  obtain ⟨hv, hh⟩ := hq
  cases hv
  obtain ⟨t2, a1, b1⟩ := k U'.heap locs ls (by rw [e1, hh]; exact hT ▸ hP) (by rw [e1, hh]; exact hT ▸ hS) hl U' rfl (Stand.forget X' (fun q h => (hL q h).elim))
  exact ⟨t2, st' t2 a1, b1⟩
end RXW
theorem t_8 : (Jvm.Cond.initialized "RoamingNetModel") ∈ lw_tbl := List.mem_append_right _ (List.mem_of_getElem? (i := 8) (by decide +kernel))
theorem t_520 : (Jvm.Cond.constant "RoamingNetModel" (92 : Nat) (2147483647 : Int32)) ∈ lw_tbl := List.mem_append_right _ (List.mem_of_getElem? (i := 520) (by decide +kernel))
theorem t_521 : (Jvm.Cond.fieldLink "RoamingNetModel" (82 : Nat) "RoamingNetModel" "life" "I") ∈ lw_tbl := List.mem_append_right _ (List.mem_of_getElem? (i := 521) (by decide +kernel))
theorem t_522 : (Jvm.Cond.fieldLink "RoamingNetModel" (86 : Nat) "RoamingNetModel" "limit" "I") ∈ lw_tbl := List.mem_append_right _ (List.mem_of_getElem? (i := 522) (by decide +kernel))
theorem t_523 : (Jvm.Cond.fieldLink "RoamingNetModel" (89 : Nat) "RoamingNetModel" "places" "I") ∈ lw_tbl := List.mem_append_right _ (List.mem_of_getElem? (i := 523) (by decide +kernel))
theorem t_524 : (Jvm.Cond.fieldLink "RoamingNetModel" (113 : Nat) "RoamingNetModel" "clock" "I") ∈ lw_tbl := List.mem_append_right _ (List.mem_of_getElem? (i := 524) (by decide +kernel))
theorem t_525 : (Jvm.Cond.fieldLink "RoamingNetModel" (93 : Nat) "RoamingNetModel" "many" "I") ∈ lw_tbl := List.mem_append_right _ (List.mem_of_getElem? (i := 525) (by decide +kernel))
theorem t_526 : (Jvm.Cond.fieldLink "RoamingNetModel" (7 : Nat) "RoamingNetModel" "rows" "[I") ∈ lw_tbl := List.mem_append_right _ (List.mem_of_getElem? (i := 526) (by decide +kernel))
theorem t_527 : (Jvm.Cond.fieldLink "RoamingNetModel" (13 : Nat) "RoamingNetModel" "row" "[I") ∈ lw_tbl := List.mem_append_right _ (List.mem_of_getElem? (i := 527) (by decide +kernel))
theorem t_528 : (Jvm.Cond.fieldLink "RoamingNetModel" (16 : Nat) "RoamingNetModel" "place" "[I") ∈ lw_tbl := List.mem_append_right _ (List.mem_of_getElem? (i := 528) (by decide +kernel))
theorem t_529 : (Jvm.Cond.fieldLink "RoamingNetModel" (19 : Nat) "RoamingNetModel" "secret" "[I") ∈ lw_tbl := List.mem_append_right _ (List.mem_of_getElem? (i := 529) (by decide +kernel))
theorem t_530 : (Jvm.Cond.fieldLink "RoamingNetModel" (22 : Nat) "RoamingNetModel" "lastId" "[I") ∈ lw_tbl := List.mem_append_right _ (List.mem_of_getElem? (i := 530) (by decide +kernel))
theorem t_531 : (Jvm.Cond.fieldLink "RoamingNetModel" (25 : Nat) "RoamingNetModel" "with" "[I") ∈ lw_tbl := List.mem_append_right _ (List.mem_of_getElem? (i := 531) (by decide +kernel))
theorem t_532 : (Jvm.Cond.fieldLink "RoamingNetModel" (28 : Nat) "RoamingNetModel" "until" "[I") ∈ lw_tbl := List.mem_append_right _ (List.mem_of_getElem? (i := 532) (by decide +kernel))
theorem t_533 : (Jvm.Cond.fieldLink "RoamingNetModel" (31 : Nat) "RoamingNetModel" "heard" "[I") ∈ lw_tbl := List.mem_append_right _ (List.mem_of_getElem? (i := 533) (by decide +kernel))
theorem t_534 : (Jvm.Cond.fieldLink "RoamingNetModel" (34 : Nat) "RoamingNetModel" "heardUntil" "[I") ∈ lw_tbl := List.mem_append_right _ (List.mem_of_getElem? (i := 534) (by decide +kernel))
theorem t_535 : (Jvm.Cond.fieldLink "RoamingNetModel" (37 : Nat) "RoamingNetModel" "openId" "[I") ∈ lw_tbl := List.mem_append_right _ (List.mem_of_getElem? (i := 535) (by decide +kernel))
theorem t_536 : (Jvm.Cond.fieldLink "RoamingNetModel" (40 : Nat) "RoamingNetModel" "openWith" "[I") ∈ lw_tbl := List.mem_append_right _ (List.mem_of_getElem? (i := 536) (by decide +kernel))
theorem t_537 : (Jvm.Cond.fieldLink "RoamingNetModel" (43 : Nat) "RoamingNetModel" "openSince" "[I") ∈ lw_tbl := List.mem_append_right _ (List.mem_of_getElem? (i := 537) (by decide +kernel))
theorem t_538 : (Jvm.Cond.fieldLink "RoamingNetModel" (46 : Nat) "RoamingNetModel" "received" "[I") ∈ lw_tbl := List.mem_append_right _ (List.mem_of_getElem? (i := 538) (by decide +kernel))
theorem t_539 : (Jvm.Cond.fieldLink "RoamingNetModel" (49 : Nat) "RoamingNetModel" "homeSecret" "[I") ∈ lw_tbl := List.mem_append_right _ (List.mem_of_getElem? (i := 539) (by decide +kernel))
theorem t_540 : (Jvm.Cond.fieldLink "RoamingNetModel" (52 : Nat) "RoamingNetModel" "accepted" "[I") ∈ lw_tbl := List.mem_append_right _ (List.mem_of_getElem? (i := 540) (by decide +kernel))
theorem t_541 : (Jvm.Cond.fieldLink "RoamingNetModel" (55 : Nat) "RoamingNetModel" "careOf" "[I") ∈ lw_tbl := List.mem_append_right _ (List.mem_of_getElem? (i := 541) (by decide +kernel))
theorem t_542 : (Jvm.Cond.fieldLink "RoamingNetModel" (58 : Nat) "RoamingNetModel" "boundUntil" "[I") ∈ lw_tbl := List.mem_append_right _ (List.mem_of_getElem? (i := 542) (by decide +kernel))
theorem t_543 : (Jvm.Cond.fieldLink "RoamingNetModel" (61 : Nat) "RoamingNetModel" "visitUntil" "[I") ∈ lw_tbl := List.mem_append_right _ (List.mem_of_getElem? (i := 543) (by decide +kernel))
theorem t_544 : (Jvm.Cond.fieldLink "RoamingNetModel" (64 : Nat) "RoamingNetModel" "entryId" "[I") ∈ lw_tbl := List.mem_append_right _ (List.mem_of_getElem? (i := 544) (by decide +kernel))
theorem t_545 : (Jvm.Cond.fieldLink "RoamingNetModel" (67 : Nat) "RoamingNetModel" "entryUntil" "[I") ∈ lw_tbl := List.mem_append_right _ (List.mem_of_getElem? (i := 545) (by decide +kernel))
theorem t_546 : (Jvm.Cond.fieldLink "RoamingNetModel" (70 : Nat) "RoamingNetModel" "said" "[I") ∈ lw_tbl := List.mem_append_right _ (List.mem_of_getElem? (i := 546) (by decide +kernel))
theorem t_547 : (Jvm.Cond.fieldLink "RoamingNetModel" (73 : Nat) "RoamingNetModel" "sent" "[I") ∈ lw_tbl := List.mem_append_right _ (List.mem_of_getElem? (i := 547) (by decide +kernel))
theorem t_548 : (Jvm.Cond.fieldLink "RoamingNetModel" (76 : Nat) "RoamingNetModel" "acked" "[I") ∈ lw_tbl := List.mem_append_right _ (List.mem_of_getElem? (i := 548) (by decide +kernel))
theorem t_549 : (Jvm.Cond.fieldLink "RoamingNetModel" (79 : Nat) "RoamingNetModel" "last" "[I") ∈ lw_tbl := List.mem_append_right _ (List.mem_of_getElem? (i := 549) (by decide +kernel))
theorem t_613 : (Jvm.Cond.methodLink "RoamingNetModel" (101 : Nat) ({ cls := "RoamingNetModel", name := "isMobile", desc := "(I)Z" } : Jvm.MethodName)) ∈ lw_tbl := List.mem_append_right _ (List.mem_of_getElem? (i := 613) (by decide +kernel))
theorem t_614 : (Jvm.Cond.static ({ cls := "RoamingNetModel", name := "isMobile", desc := "(I)Z" } : Jvm.MethodName)) ∈ lw_tbl := List.mem_append_right _ (List.mem_of_getElem? (i := 614) (by decide +kernel))
theorem t_615 : (Jvm.Cond.code ({ cls := "RoamingNetModel", name := "isMobile", desc := "(I)Z" } : Jvm.MethodName) prog_9_method_2_code (1 : Nat) (Option.some Jvm.ClassFile.FieldType.boolean)) ∈ lw_tbl := List.mem_append_right _ (List.mem_of_getElem? (i := 615) (by decide +kernel))
theorem t_624 : (Jvm.Cond.methodLink "RoamingNetModel" (128 : Nat) ({ cls := "RoamingNetModel", name := "pump", desc := "(I)V" } : Jvm.MethodName)) ∈ lw_tbl := List.mem_append_right _ (List.mem_of_getElem? (i := 624) (by decide +kernel))
theorem t_626 : (Jvm.Cond.instanceMethod ({ cls := "RoamingNetModel", name := "pump", desc := "(I)V" } : Jvm.MethodName)) ∈ lw_tbl := List.mem_append_right _ (List.mem_of_getElem? (i := 626) (by decide +kernel))
theorem t_627 : (Jvm.Cond.code ({ cls := "RoamingNetModel", name := "pump", desc := "(I)V" } : Jvm.MethodName) prog_9_method_20_code (3 : Nat) (Option.none : Option Jvm.ClassFile.FieldType)) ∈ lw_tbl := List.mem_append_right _ (List.mem_of_getElem? (i := 627) (by decide +kernel))
theorem t_628 : (Jvm.Cond.methodLink "RoamingNetModel" (109 : Nat) ({ cls := "RoamingNetModel", name := "send", desc := "(IIIIIIIII)V" } : Jvm.MethodName)) ∈ lw_tbl := List.mem_append_right _ (List.mem_of_getElem? (i := 628) (by decide +kernel))
theorem t_630 : (Jvm.Cond.instanceMethod ({ cls := "RoamingNetModel", name := "send", desc := "(IIIIIIIII)V" } : Jvm.MethodName)) ∈ lw_tbl := List.mem_append_right _ (List.mem_of_getElem? (i := 630) (by decide +kernel))
theorem t_631 : (Jvm.Cond.code ({ cls := "RoamingNetModel", name := "send", desc := "(IIIIIIIII)V" } : Jvm.MethodName) prog_9_method_3_code (11 : Nat) (Option.none : Option Jvm.ClassFile.FieldType)) ∈ lw_tbl := List.mem_append_right _ (List.mem_of_getElem? (i := 631) (by decide +kernel))
theorem t_636 : (Jvm.Cond.methodLink "RoamingNetModel" (132 : Nat) ({ cls := "RoamingNetModel", name := "isMessage", desc := "(I)Z" } : Jvm.MethodName)) ∈ lw_tbl := List.mem_append_right _ (List.mem_of_getElem? (i := 636) (by decide +kernel))
theorem t_638 : (Jvm.Cond.instanceMethod ({ cls := "RoamingNetModel", name := "isMessage", desc := "(I)Z" } : Jvm.MethodName)) ∈ lw_tbl := List.mem_append_right _ (List.mem_of_getElem? (i := 638) (by decide +kernel))
theorem t_639 : (Jvm.Cond.code ({ cls := "RoamingNetModel", name := "isMessage", desc := "(I)Z" } : Jvm.MethodName) prog_9_method_5_code (2 : Nat) (Option.some Jvm.ClassFile.FieldType.boolean)) ∈ lw_tbl := List.mem_append_right _ (List.mem_of_getElem? (i := 639) (by decide +kernel))
theorem t_640 : (Jvm.Cond.methodLink "RoamingNetModel" (135 : Nat) ({ cls := "RoamingNetModel", name := "take", desc := "(I)V" } : Jvm.MethodName)) ∈ lw_tbl := List.mem_append_right _ (List.mem_of_getElem? (i := 640) (by decide +kernel))
theorem t_642 : (Jvm.Cond.instanceMethod ({ cls := "RoamingNetModel", name := "take", desc := "(I)V" } : Jvm.MethodName)) ∈ lw_tbl := List.mem_append_right _ (List.mem_of_getElem? (i := 642) (by decide +kernel))
theorem t_643 : (Jvm.Cond.code ({ cls := "RoamingNetModel", name := "take", desc := "(I)V" } : Jvm.MethodName) prog_9_method_4_code (3 : Nat) (Option.none : Option Jvm.ClassFile.FieldType)) ∈ lw_tbl := List.mem_append_right _ (List.mem_of_getElem? (i := 643) (by decide +kernel))
theorem t_648 : (Jvm.Cond.methodLink "RoamingNetModel" (116 : Nat) ({ cls := "RoamingNetModel", name := "register", desc := "(II)V" } : Jvm.MethodName)) ∈ lw_tbl := List.mem_append_right _ (List.mem_of_getElem? (i := 648) (by decide +kernel))
theorem t_650 : (Jvm.Cond.instanceMethod ({ cls := "RoamingNetModel", name := "register", desc := "(II)V" } : Jvm.MethodName)) ∈ lw_tbl := List.mem_append_right _ (List.mem_of_getElem? (i := 650) (by decide +kernel))
theorem t_651 : (Jvm.Cond.code ({ cls := "RoamingNetModel", name := "register", desc := "(II)V" } : Jvm.MethodName) prog_9_method_11_code (4 : Nat) (Option.none : Option Jvm.ClassFile.FieldType)) ∈ lw_tbl := List.mem_append_right _ (List.mem_of_getElem? (i := 651) (by decide +kernel))
theorem t_652 : (Jvm.Cond.methodLink "RoamingNetModel" (105 : Nat) ({ cls := "RoamingNetModel", name := "requestSeal", desc := "(IIIII)I" } : Jvm.MethodName)) ∈ lw_tbl := List.mem_append_right _ (List.mem_of_getElem? (i := 652) (by decide +kernel))
theorem t_653 : (Jvm.Cond.static ({ cls := "RoamingNetModel", name := "requestSeal", desc := "(IIIII)I" } : Jvm.MethodName)) ∈ lw_tbl := List.mem_append_right _ (List.mem_of_getElem? (i := 653) (by decide +kernel))
theorem t_654 : (Jvm.Cond.code ({ cls := "RoamingNetModel", name := "requestSeal", desc := "(IIIII)I" } : Jvm.MethodName) prog_9_method_7_code (5 : Nat) (Option.some Jvm.ClassFile.FieldType.int)) ∈ lw_tbl := List.mem_append_right _ (List.mem_of_getElem? (i := 654) (by decide +kernel))
theorem t_655 : (Jvm.Cond.methodLink "RoamingNetModel" (97 : Nat) ({ cls := "RoamingNetModel", name := "mixed", desc := "(II)I" } : Jvm.MethodName)) ∈ lw_tbl := List.mem_append_right _ (List.mem_of_getElem? (i := 655) (by decide +kernel))
theorem t_656 : (Jvm.Cond.static ({ cls := "RoamingNetModel", name := "mixed", desc := "(II)I" } : Jvm.MethodName)) ∈ lw_tbl := List.mem_append_right _ (List.mem_of_getElem? (i := 656) (by decide +kernel))
theorem t_657 : (Jvm.Cond.code ({ cls := "RoamingNetModel", name := "mixed", desc := "(II)I" } : Jvm.MethodName) prog_9_method_6_code (3 : Nat) (Option.some Jvm.ClassFile.FieldType.int)) ∈ lw_tbl := List.mem_append_right _ (List.mem_of_getElem? (i := 657) (by decide +kernel))
theorem t_658 : (Jvm.Cond.constant "RoamingNetModel" (96 : Nat) (16777619 : Int32)) ∈ lw_tbl := List.mem_append_right _ (List.mem_of_getElem? (i := 658) (by decide +kernel))
theorem t_663 : (Jvm.Cond.methodLink "RoamingNetModel" (120 : Nat) ({ cls := "RoamingNetModel", name := "replySeal", desc := "(IIIIII)I" } : Jvm.MethodName)) ∈ lw_tbl := List.mem_append_right _ (List.mem_of_getElem? (i := 663) (by decide +kernel))
theorem t_664 : (Jvm.Cond.static ({ cls := "RoamingNetModel", name := "replySeal", desc := "(IIIIII)I" } : Jvm.MethodName)) ∈ lw_tbl := List.mem_append_right _ (List.mem_of_getElem? (i := 664) (by decide +kernel))
theorem t_665 : (Jvm.Cond.code ({ cls := "RoamingNetModel", name := "replySeal", desc := "(IIIIII)I" } : Jvm.MethodName) prog_9_method_8_code (6 : Nat) (Option.some Jvm.ClassFile.FieldType.int)) ∈ lw_tbl := List.mem_append_right _ (List.mem_of_getElem? (i := 665) (by decide +kernel))
theorem t_686 : (Jvm.Cond.methodLink "RoamingNetModel" (124 : Nat) ({ cls := "RoamingNetModel", name := "takesPlace", desc := "(II)Z" } : Jvm.MethodName)) ∈ lw_tbl := List.mem_append_right _ (List.mem_of_getElem? (i := 686) (by decide +kernel))
theorem t_688 : (Jvm.Cond.instanceMethod ({ cls := "RoamingNetModel", name := "takesPlace", desc := "(II)Z" } : Jvm.MethodName)) ∈ lw_tbl := List.mem_append_right _ (List.mem_of_getElem? (i := 688) (by decide +kernel))
theorem t_689 : (Jvm.Cond.code ({ cls := "RoamingNetModel", name := "takesPlace", desc := "(II)Z" } : Jvm.MethodName) prog_9_method_17_code (3 : Nat) (Option.some Jvm.ClassFile.FieldType.boolean)) ∈ lw_tbl := List.mem_append_right _ (List.mem_of_getElem? (i := 689) (by decide +kernel))
theorem t_710 : (Jvm.Cond.methodLink "RoamingNetModel" (165 : Nat) ({ cls := "RoamingNetModel", name := "oneTick", desc := "()V" } : Jvm.MethodName)) ∈ lw_tbl := List.mem_append_right _ (List.mem_of_getElem? (i := 710) (by decide +kernel))
theorem t_712 : (Jvm.Cond.instanceMethod ({ cls := "RoamingNetModel", name := "oneTick", desc := "()V" } : Jvm.MethodName)) ∈ lw_tbl := List.mem_append_right _ (List.mem_of_getElem? (i := 712) (by decide +kernel))
theorem t_713 : (Jvm.Cond.code ({ cls := "RoamingNetModel", name := "oneTick", desc := "()V" } : Jvm.MethodName) prog_9_method_28_code (4 : Nat) (Option.none : Option Jvm.ClassFile.FieldType)) ∈ lw_tbl := List.mem_append_right _ (List.mem_of_getElem? (i := 713) (by decide +kernel))
theorem t_714 : (Jvm.Cond.methodLink "RoamingNetModel" (162 : Nat) ({ cls := "RoamingNetModel", name := "tickMobile", desc := "(I)V" } : Jvm.MethodName)) ∈ lw_tbl := List.mem_append_right _ (List.mem_of_getElem? (i := 714) (by decide +kernel))
theorem t_716 : (Jvm.Cond.instanceMethod ({ cls := "RoamingNetModel", name := "tickMobile", desc := "(I)V" } : Jvm.MethodName)) ∈ lw_tbl := List.mem_append_right _ (List.mem_of_getElem? (i := 716) (by decide +kernel))
theorem t_717 : (Jvm.Cond.code ({ cls := "RoamingNetModel", name := "tickMobile", desc := "(I)V" } : Jvm.MethodName) prog_9_method_27_code (3 : Nat) (Option.none : Option Jvm.ClassFile.FieldType)) ∈ lw_tbl := List.mem_append_right _ (List.mem_of_getElem? (i := 717) (by decide +kernel))
theorem t_726 : (Jvm.Cond.constant "RoamingNetModel" (168 : Nat) (1000000 : Int32)) ∈ lw_tbl := List.mem_append_right _ (List.mem_of_getElem? (i := 726) (by decide +kernel))
theorem t_727 : (Jvm.Cond.constant "RoamingNetModel" (169 : Nat) (100000 : Int32)) ∈ lw_tbl := List.mem_append_right _ (List.mem_of_getElem? (i := 727) (by decide +kernel))
theorem w_Mod_isMobile : Cond.code y_Mod_isMobile b_Mod_isMobile 1 (some .boolean) ∈ rx_W := rx_in t_615 rfl
theorem z_Mod_isMobile : Cond.static y_Mod_isMobile ∈ rx_W := rx_in t_614 rfl
theorem w_Mod_requestSeal : Cond.code y_Mod_requestSeal b_Mod_requestSeal 5 (some .int) ∈ rx_W := rx_in t_654 rfl
theorem z_Mod_requestSeal : Cond.static y_Mod_requestSeal ∈ rx_W := rx_in t_653 rfl
theorem w_Mod_send : Cond.code y_Mod_send b_Mod_send 11 none ∈ rx_W := rx_in t_631 rfl
theorem z_Mod_send : Cond.instanceMethod y_Mod_send ∈ rx_W := rx_in t_630 rfl
theorem s_Mod_send : Cond.selects y_Mod_send.cls y_Mod_send y_Mod_send ∈ rx_W := rx_in (List.mem_append_left _ (List.mem_map.mpr ⟨(y_Mod_send, 29), by decide +kernel, rfl⟩)) rfl
theorem w_Mod_register : Cond.code y_Mod_register b_Mod_register 4 none ∈ rx_W := rx_in t_651 rfl
theorem z_Mod_register : Cond.instanceMethod y_Mod_register ∈ rx_W := rx_in t_650 rfl
theorem s_Mod_register : Cond.selects y_Mod_register.cls y_Mod_register y_Mod_register ∈ rx_W := rx_in (List.mem_append_left _ (List.mem_map.mpr ⟨(y_Mod_register, 29), by decide +kernel, rfl⟩)) rfl
theorem w_Mod_replySeal : Cond.code y_Mod_replySeal b_Mod_replySeal 6 (some .int) ∈ rx_W := rx_in t_665 rfl
theorem z_Mod_replySeal : Cond.static y_Mod_replySeal ∈ rx_W := rx_in t_664 rfl
theorem w_Mod_takesPlace : Cond.code y_Mod_takesPlace b_Mod_takesPlace 3 (some .boolean) ∈ rx_W := rx_in t_689 rfl
theorem z_Mod_takesPlace : Cond.instanceMethod y_Mod_takesPlace ∈ rx_W := rx_in t_688 rfl
theorem s_Mod_takesPlace : Cond.selects y_Mod_takesPlace.cls y_Mod_takesPlace y_Mod_takesPlace ∈ rx_W := rx_in (List.mem_append_left _ (List.mem_map.mpr ⟨(y_Mod_takesPlace, 29), by decide +kernel, rfl⟩)) rfl
theorem w_Mod_pump : Cond.code y_Mod_pump b_Mod_pump 3 none ∈ rx_W := rx_in t_627 rfl
theorem z_Mod_pump : Cond.instanceMethod y_Mod_pump ∈ rx_W := rx_in t_626 rfl
theorem s_Mod_pump : Cond.selects y_Mod_pump.cls y_Mod_pump y_Mod_pump ∈ rx_W := rx_in (List.mem_append_left _ (List.mem_map.mpr ⟨(y_Mod_pump, 29), by decide +kernel, rfl⟩)) rfl
theorem w_Mod_isMessage : Cond.code y_Mod_isMessage b_Mod_isMessage 2 (some .boolean) ∈ rx_W := rx_in t_639 rfl
theorem z_Mod_isMessage : Cond.instanceMethod y_Mod_isMessage ∈ rx_W := rx_in t_638 rfl
theorem s_Mod_isMessage : Cond.selects y_Mod_isMessage.cls y_Mod_isMessage y_Mod_isMessage ∈ rx_W := rx_in (List.mem_append_left _ (List.mem_map.mpr ⟨(y_Mod_isMessage, 29), by decide +kernel, rfl⟩)) rfl
theorem w_Mod_take : Cond.code y_Mod_take b_Mod_take 3 none ∈ rx_W := rx_in t_643 rfl
theorem z_Mod_take : Cond.instanceMethod y_Mod_take ∈ rx_W := rx_in t_642 rfl
theorem s_Mod_take : Cond.selects y_Mod_take.cls y_Mod_take y_Mod_take ∈ rx_W := rx_in (List.mem_append_left _ (List.mem_map.mpr ⟨(y_Mod_take, 29), by decide +kernel, rfl⟩)) rfl
theorem w_Mod_tickMobile : Cond.code y_Mod_tickMobile b_Mod_tickMobile 3 none ∈ rx_W := rx_in t_717 rfl
theorem z_Mod_tickMobile : Cond.instanceMethod y_Mod_tickMobile ∈ rx_W := rx_in t_716 rfl
theorem s_Mod_tickMobile : Cond.selects y_Mod_tickMobile.cls y_Mod_tickMobile y_Mod_tickMobile ∈ rx_W := rx_in (List.mem_append_left _ (List.mem_map.mpr ⟨(y_Mod_tickMobile, 29), by decide +kernel, rfl⟩)) rfl
theorem w_Mod_oneTick : Cond.code y_Mod_oneTick b_Mod_oneTick 4 none ∈ rx_W := rx_in t_713 rfl
theorem z_Mod_oneTick : Cond.instanceMethod y_Mod_oneTick ∈ rx_W := rx_in t_712 rfl
theorem s_Mod_oneTick : Cond.selects y_Mod_oneTick.cls y_Mod_oneTick y_Mod_oneTick ∈ rx_W := rx_in (List.mem_append_left _ (List.mem_map.mpr ⟨(y_Mod_oneTick, 29), by decide +kernel, rfl⟩)) rfl
theorem w_Mod_mixed : Cond.code y_Mod_mixed b_Mod_mixed 3 (some .int) ∈ rx_W := rx_in t_657 rfl
theorem z_Mod_mixed : Cond.static y_Mod_mixed ∈ rx_W := rx_in t_656 rfl
section RXF
variable {p : Program} {l : Launch} {e : Env} {R : Room} {s : State} {m : MethodId} {args : Array Value} {below : List Frame} {meth : Method} {c : Code} {H0 : Heap} {cells slots : Nat} {Q : State → Prop} {nL : Nat} {σ σ' : rMem} {lo : List (Nat × Value)} {rest : List Value} {cc : ByteArray} {ret : Option FieldType} {pc : Nat} (D : va_G) (b : Nat) (ca : Nat → ClassId)
theorem q_Mod_97 {O : Nat → Prop} {Φ : Heap → Prop} (C : rx_Cx p s m args meth c R_Mod cc nL ret) {x0 : Int32} {x1 : Int32} {v : Int32} (hd : decode cc pc = .ok (.invokestatic 97, 3)) (hM : rx_S l y_Mod_mixed b_Mod_mixed 3 (some .int) (rx_rm 0) [.int x0, .int x1] (.int v)) (hR : (rx_rm 0).frames + 1 ≤ R.frames ∧ 12 + (3 + 11) + (rx_rm 0).locals ≤ R.locals) (hf : cells ≤ R.cells ∧ slots ≤ R.slots) (hW : (rest.map fun v => v.category).sum ≤ 12)
    (k : rx_X p l e R s m args below meth c O H0 cells slots Q nL Φ (pc + 3) lo (.int v :: rest)) : rx_X p l e R s m args below meth c O H0 cells slots Q nL Φ pc lo (.int x1 :: .int x0 :: rest) :=
  rx_callSw C w_Mod_mixed (rx_in t_655 rfl) z_Mod_mixed (rx_in t_8 rfl) (by decide +kernel) hd hM ⟨rfl, rfl⟩ hR hf (n := 2) rfl rfl hW k
theorem q_Mod_101 {O : Nat → Prop} {Φ : Heap → Prop} (C : rx_Cx p s m args meth c R_Mod cc nL ret) {x0 : Int32} {v : Int32} (hd : decode cc pc = .ok (.invokestatic 101, 3)) (hM : rx_S l y_Mod_isMobile b_Mod_isMobile 1 (some .boolean) (rx_rm 0) [.int x0] (.int v)) (hR : (rx_rm 0).frames + 1 ≤ R.frames ∧ 12 + (1 + 11) + (rx_rm 0).locals ≤ R.locals) (hf : cells ≤ R.cells ∧ slots ≤ R.slots) (hW : (rest.map fun v => v.category).sum ≤ 12)
    (k : rx_X p l e R s m args below meth c O H0 cells slots Q nL Φ (pc + 3) lo (.int v :: rest)) : rx_X p l e R s m args below meth c O H0 cells slots Q nL Φ pc lo (.int x0 :: rest) :=
  rx_callSw C w_Mod_isMobile (rx_in t_613 rfl) z_Mod_isMobile (rx_in t_8 rfl) (by decide +kernel) hd hM ⟨rfl, rfl⟩ hR hf (n := 1) rfl rfl hW k
theorem q_Mod_105 {O : Nat → Prop} {Φ : Heap → Prop} (C : rx_Cx p s m args meth c R_Mod cc nL ret) {x0 : Int32} {x1 : Int32} {x2 : Int32} {x3 : Int32} {x4 : Int32} {v : Int32} (hd : decode cc pc = .ok (.invokestatic 105, 3)) (hM : rx_S l y_Mod_requestSeal b_Mod_requestSeal 5 (some .int) (rx_rm 1) [.int x0, .int x1, .int x2, .int x3, .int x4] (.int v)) (hR : (rx_rm 1).frames + 1 ≤ R.frames ∧ 12 + (5 + 11) + (rx_rm 1).locals ≤ R.locals) (hf : cells ≤ R.cells ∧ slots ≤ R.slots) (hW : (rest.map fun v => v.category).sum ≤ 12)
    (k : rx_X p l e R s m args below meth c O H0 cells slots Q nL Φ (pc + 3) lo (.int v :: rest)) : rx_X p l e R s m args below meth c O H0 cells slots Q nL Φ pc lo (.int x4 :: .int x3 :: .int x2 :: .int x1 :: .int x0 :: rest) :=
  rx_callSw C w_Mod_requestSeal (rx_in t_652 rfl) z_Mod_requestSeal (rx_in t_8 rfl) (by decide +kernel) hd hM ⟨rfl, rfl⟩ hR hf (n := 5) rfl rfl hW k
theorem q_Mod_109 (C : rx_Cw p s m args meth c R_Mod cc nL ret (rx_fin D b ca))  {x0 : Int32} {x1 : Int32} {x2 : Int32} {x3 : Int32} {x4 : Int32} {x5 : Int32} {x6 : Int32} {x7 : Int32} {x8 : Int32}  (hd : decode cc pc = .ok (.invokevirtual 109, 3)) (hM : rx_C l (rx_fin D b ca) y_Mod_send b_Mod_send 11 none (rx_rm 0) [.ref (rg_A (rx_fin D b ca) 71), .int x0, .int x1, .int x2, .int x3, .int x4, .int x5, .int x6, .int x7, .int x8] σ none σ') (hR : (rx_rm 0).frames + 1 ≤ R.frames ∧ 8 + (11 + 11) + (rx_rm 0).locals ≤ R.locals) (hf : cells ≤ R.cells ∧ slots ≤ R.slots) (hW : (rest.map fun v => v.category).sum ≤ 8)
    (k : rx_X p l e R s m args below meth c (rg_O (rx_fin D b ca)) H0 cells slots Q nL (rx_m (rx_fin D b ca) σ') (pc + 3) lo rest) : rx_X p l e R s m args below meth c (rg_O (rx_fin D b ca)) H0 cells slots Q nL (rx_m (rx_fin D b ca) σ) pc lo (.int x8 :: .int x7 :: .int x6 :: .int x5 :: .int x4 :: .int x3 :: .int x2 :: .int x1 :: .int x0 :: .ref (rg_A (rx_fin D b ca) 71) :: rest) :=
  rx_callV C w_Mod_send (rx_in t_628 rfl) z_Mod_send s_Mod_send (rx_in t_8 rfl) (by decide +kernel) rfl hd (rx_lt (by omega)) rfl hM ⟨rfl, rfl⟩ hR hf (n := 9) rfl rfl hW k
theorem q_Mod_116 (C : rx_Cw p s m args meth c R_Mod cc nL ret (rx_fin D b ca))  {x0 : Int32} {x1 : Int32}  (hd : decode cc pc = .ok (.invokevirtual 116, 3)) (hM : rx_C l (rx_fin D b ca) y_Mod_register b_Mod_register 4 none (rx_rm 2) [.ref (rg_A (rx_fin D b ca) 71), .int x0, .int x1] σ none σ') (hR : (rx_rm 2).frames + 1 ≤ R.frames ∧ 8 + (4 + 11) + (rx_rm 2).locals ≤ R.locals) (hf : cells ≤ R.cells ∧ slots ≤ R.slots) (hW : (rest.map fun v => v.category).sum ≤ 8)
    (k : rx_X p l e R s m args below meth c (rg_O (rx_fin D b ca)) H0 cells slots Q nL (rx_m (rx_fin D b ca) σ') (pc + 3) lo rest) : rx_X p l e R s m args below meth c (rg_O (rx_fin D b ca)) H0 cells slots Q nL (rx_m (rx_fin D b ca) σ) pc lo (.int x1 :: .int x0 :: .ref (rg_A (rx_fin D b ca) 71) :: rest) :=
  rx_callV C w_Mod_register (rx_in t_648 rfl) z_Mod_register s_Mod_register (rx_in t_8 rfl) (by decide +kernel) rfl hd (rx_lt (by omega)) rfl hM ⟨rfl, rfl⟩ hR hf (n := 2) rfl rfl hW k
theorem q_Mod_120 {O : Nat → Prop} {Φ : Heap → Prop} (C : rx_Cx p s m args meth c R_Mod cc nL ret) {x0 : Int32} {x1 : Int32} {x2 : Int32} {x3 : Int32} {x4 : Int32} {x5 : Int32} {v : Int32} (hd : decode cc pc = .ok (.invokestatic 120, 3)) (hM : rx_S l y_Mod_replySeal b_Mod_replySeal 6 (some .int) (rx_rm 1) [.int x0, .int x1, .int x2, .int x3, .int x4, .int x5] (.int v)) (hR : (rx_rm 1).frames + 1 ≤ R.frames ∧ 12 + (6 + 11) + (rx_rm 1).locals ≤ R.locals) (hf : cells ≤ R.cells ∧ slots ≤ R.slots) (hW : (rest.map fun v => v.category).sum ≤ 12)
    (k : rx_X p l e R s m args below meth c O H0 cells slots Q nL Φ (pc + 3) lo (.int v :: rest)) : rx_X p l e R s m args below meth c O H0 cells slots Q nL Φ pc lo (.int x5 :: .int x4 :: .int x3 :: .int x2 :: .int x1 :: .int x0 :: rest) :=
  rx_callSw C w_Mod_replySeal (rx_in t_663 rfl) z_Mod_replySeal (rx_in t_8 rfl) (by decide +kernel) hd hM ⟨rfl, rfl⟩ hR hf (n := 6) rfl rfl hW k
theorem q_Mod_124 (C : rx_Cw p s m args meth c R_Mod cc nL ret (rx_fin D b ca))  {x0 : Int32} {x1 : Int32} {v : Int32} (hd : decode cc pc = .ok (.invokevirtual 124, 3)) (hM : rx_C l (rx_fin D b ca) y_Mod_takesPlace b_Mod_takesPlace 3 (some .boolean) (rx_rm 0) [.ref (rg_A (rx_fin D b ca) 71), .int x0, .int x1] σ (some (.int v)) σ') (hR : (rx_rm 0).frames + 1 ≤ R.frames ∧ 8 + (3 + 11) + (rx_rm 0).locals ≤ R.locals) (hf : cells ≤ R.cells ∧ slots ≤ R.slots) (hW : (rest.map fun v => v.category).sum ≤ 8)
    (k : rx_X p l e R s m args below meth c (rg_O (rx_fin D b ca)) H0 cells slots Q nL (rx_m (rx_fin D b ca) σ') (pc + 3) lo (.int v :: rest)) : rx_X p l e R s m args below meth c (rg_O (rx_fin D b ca)) H0 cells slots Q nL (rx_m (rx_fin D b ca) σ) pc lo (.int x1 :: .int x0 :: .ref (rg_A (rx_fin D b ca) 71) :: rest) :=
  rx_callV C w_Mod_takesPlace (rx_in t_686 rfl) z_Mod_takesPlace s_Mod_takesPlace (rx_in t_8 rfl) (by decide +kernel) rfl hd (rx_lt (by omega)) rfl hM ⟨rfl, rfl⟩ hR hf (n := 2) rfl rfl hW k
theorem q_Mod_128 (C : rx_Cw p s m args meth c R_Mod cc nL ret (rx_fin D b ca))  {x0 : Int32}  (hd : decode cc pc = .ok (.invokevirtual 128, 3)) (hM : rx_C l (rx_fin D b ca) y_Mod_pump b_Mod_pump 3 none (rx_rm 1) [.ref (rg_A (rx_fin D b ca) 71), .int x0] σ none σ') (hR : (rx_rm 1).frames + 1 ≤ R.frames ∧ 8 + (3 + 11) + (rx_rm 1).locals ≤ R.locals) (hf : cells ≤ R.cells ∧ slots ≤ R.slots) (hW : (rest.map fun v => v.category).sum ≤ 8)
    (k : rx_X p l e R s m args below meth c (rg_O (rx_fin D b ca)) H0 cells slots Q nL (rx_m (rx_fin D b ca) σ') (pc + 3) lo rest) : rx_X p l e R s m args below meth c (rg_O (rx_fin D b ca)) H0 cells slots Q nL (rx_m (rx_fin D b ca) σ) pc lo (.int x0 :: .ref (rg_A (rx_fin D b ca) 71) :: rest) :=
  rx_callV C w_Mod_pump (rx_in t_624 rfl) z_Mod_pump s_Mod_pump (rx_in t_8 rfl) (by decide +kernel) rfl hd (rx_lt (by omega)) rfl hM ⟨rfl, rfl⟩ hR hf (n := 1) rfl rfl hW k
theorem q_Mod_132 (C : rx_Cw p s m args meth c R_Mod cc nL ret (rx_fin D b ca))  {x0 : Int32} {v : Int32} (hd : decode cc pc = .ok (.invokevirtual 132, 3)) (hM : rx_C l (rx_fin D b ca) y_Mod_isMessage b_Mod_isMessage 2 (some .boolean) (rx_rm 0) [.ref (rg_A (rx_fin D b ca) 71), .int x0] σ (some (.int v)) σ') (hR : (rx_rm 0).frames + 1 ≤ R.frames ∧ 8 + (2 + 11) + (rx_rm 0).locals ≤ R.locals) (hf : cells ≤ R.cells ∧ slots ≤ R.slots) (hW : (rest.map fun v => v.category).sum ≤ 8)
    (k : rx_X p l e R s m args below meth c (rg_O (rx_fin D b ca)) H0 cells slots Q nL (rx_m (rx_fin D b ca) σ') (pc + 3) lo (.int v :: rest)) : rx_X p l e R s m args below meth c (rg_O (rx_fin D b ca)) H0 cells slots Q nL (rx_m (rx_fin D b ca) σ) pc lo (.int x0 :: .ref (rg_A (rx_fin D b ca) 71) :: rest) :=
  rx_callV C w_Mod_isMessage (rx_in t_636 rfl) z_Mod_isMessage s_Mod_isMessage (rx_in t_8 rfl) (by decide +kernel) rfl hd (rx_lt (by omega)) rfl hM ⟨rfl, rfl⟩ hR hf (n := 1) rfl rfl hW k
theorem q_Mod_135 (C : rx_Cw p s m args meth c R_Mod cc nL ret (rx_fin D b ca))  {x0 : Int32}  (hd : decode cc pc = .ok (.invokevirtual 135, 3)) (hM : rx_C l (rx_fin D b ca) y_Mod_take b_Mod_take 3 none (rx_rm 0) [.ref (rg_A (rx_fin D b ca) 71), .int x0] σ none σ') (hR : (rx_rm 0).frames + 1 ≤ R.frames ∧ 8 + (3 + 11) + (rx_rm 0).locals ≤ R.locals) (hf : cells ≤ R.cells ∧ slots ≤ R.slots) (hW : (rest.map fun v => v.category).sum ≤ 8)
    (k : rx_X p l e R s m args below meth c (rg_O (rx_fin D b ca)) H0 cells slots Q nL (rx_m (rx_fin D b ca) σ') (pc + 3) lo rest) : rx_X p l e R s m args below meth c (rg_O (rx_fin D b ca)) H0 cells slots Q nL (rx_m (rx_fin D b ca) σ) pc lo (.int x0 :: .ref (rg_A (rx_fin D b ca) 71) :: rest) :=
  rx_callV C w_Mod_take (rx_in t_640 rfl) z_Mod_take s_Mod_take (rx_in t_8 rfl) (by decide +kernel) rfl hd (rx_lt (by omega)) rfl hM ⟨rfl, rfl⟩ hR hf (n := 1) rfl rfl hW k
theorem q_Mod_162 (C : rx_Cw p s m args meth c R_Mod cc nL ret (rx_fin D b ca))  {x0 : Int32}  (hd : decode cc pc = .ok (.invokevirtual 162, 3)) (hM : rx_C l (rx_fin D b ca) y_Mod_tickMobile b_Mod_tickMobile 3 none (rx_rm 3) [.ref (rg_A (rx_fin D b ca) 71), .int x0] σ none σ') (hR : (rx_rm 3).frames + 1 ≤ R.frames ∧ 8 + (3 + 11) + (rx_rm 3).locals ≤ R.locals) (hf : cells ≤ R.cells ∧ slots ≤ R.slots) (hW : (rest.map fun v => v.category).sum ≤ 8)
    (k : rx_X p l e R s m args below meth c (rg_O (rx_fin D b ca)) H0 cells slots Q nL (rx_m (rx_fin D b ca) σ') (pc + 3) lo rest) : rx_X p l e R s m args below meth c (rg_O (rx_fin D b ca)) H0 cells slots Q nL (rx_m (rx_fin D b ca) σ) pc lo (.int x0 :: .ref (rg_A (rx_fin D b ca) 71) :: rest) :=
  rx_callV C w_Mod_tickMobile (rx_in t_714 rfl) z_Mod_tickMobile s_Mod_tickMobile (rx_in t_8 rfl) (by decide +kernel) rfl hd (rx_lt (by omega)) rfl hM ⟨rfl, rfl⟩ hR hf (n := 1) rfl rfl hW k
theorem q_Mod_165 (C : rx_Cw p s m args meth c R_Mod cc nL ret (rx_fin D b ca))    (hd : decode cc pc = .ok (.invokevirtual 165, 3)) (hM : rx_C l (rx_fin D b ca) y_Mod_oneTick b_Mod_oneTick 4 none (rx_rm 4) [.ref (rg_A (rx_fin D b ca) 71)] σ none σ') (hR : (rx_rm 4).frames + 1 ≤ R.frames ∧ 8 + (4 + 11) + (rx_rm 4).locals ≤ R.locals) (hf : cells ≤ R.cells ∧ slots ≤ R.slots) (hW : (rest.map fun v => v.category).sum ≤ 8)
    (k : rx_X p l e R s m args below meth c (rg_O (rx_fin D b ca)) H0 cells slots Q nL (rx_m (rx_fin D b ca) σ') (pc + 3) lo rest) : rx_X p l e R s m args below meth c (rg_O (rx_fin D b ca)) H0 cells slots Q nL (rx_m (rx_fin D b ca) σ) pc lo (.ref (rg_A (rx_fin D b ca) 71) :: rest) :=
  rx_callV C w_Mod_oneTick (rx_in t_710 rfl) z_Mod_oneTick s_Mod_oneTick (rx_in t_8 rfl) (by decide +kernel) rfl hd (rx_lt (by omega)) rfl hM ⟨rfl, rfl⟩ hR hf (n := 0) rfl rfl hW k
theorem k_Mod_92 : Cond.constant R_Mod 92 2147483647 ∈ rx_W := rx_in t_520 rfl
theorem k_Mod_96 : Cond.constant R_Mod 96 16777619 ∈ rx_W := rx_in t_658 rfl
theorem k_Mod_168 : Cond.constant R_Mod 168 1000000 ∈ rx_W := rx_in t_726 rfl
theorem k_Mod_169 : Cond.constant R_Mod 169 100000 ∈ rx_W := rx_in t_727 rfl
theorem g_Mod_7 (C : rx_Cw p s m args meth c R_Mod cc nL ret (rx_fin D b ca))  (hd : decode cc pc = .ok (.getfield 7, 3))
    (kk : rx_X p l e R s m args below meth c (rg_O (rx_fin D b ca)) H0 cells slots Q nL (rx_m (rx_fin D b ca) σ) (pc + 3) lo (.ref (rg_A (rx_fin D b ca) 72) :: rest)) : rx_X p l e R s m args below meth c (rg_O (rx_fin D b ca)) H0 cells slots Q nL (rx_m (rx_fin D b ca) σ) pc lo (.ref (rg_A (rx_fin D b ca) 71) :: rest) :=
  rx_get C u_Mod rfl (k := 5) (Nat.le_of_ble_eq_true rfl) (rx_in t_526 rfl) hd (rx_lt (by omega)) rfl rfl kk
theorem g_Mod_13 (C : rx_Cw p s m args meth c R_Mod cc nL ret (rx_fin D b ca))  (hd : decode cc pc = .ok (.getfield 13, 3))
    (kk : rx_X p l e R s m args below meth c (rg_O (rx_fin D b ca)) H0 cells slots Q nL (rx_m (rx_fin D b ca) σ) (pc + 3) lo (.ref (rg_A (rx_fin D b ca) 73) :: rest)) : rx_X p l e R s m args below meth c (rg_O (rx_fin D b ca)) H0 cells slots Q nL (rx_m (rx_fin D b ca) σ) pc lo (.ref (rg_A (rx_fin D b ca) 71) :: rest) :=
  rx_get C u_Mod rfl (k := 6) (Nat.le_of_ble_eq_true rfl) (rx_in t_527 rfl) hd (rx_lt (by omega)) rfl rfl kk
theorem g_Mod_16 (C : rx_Cw p s m args meth c R_Mod cc nL ret (rx_fin D b ca))  (hd : decode cc pc = .ok (.getfield 16, 3))
    (kk : rx_X p l e R s m args below meth c (rg_O (rx_fin D b ca)) H0 cells slots Q nL (rx_m (rx_fin D b ca) σ) (pc + 3) lo (.ref (rg_A (rx_fin D b ca) 74) :: rest)) : rx_X p l e R s m args below meth c (rg_O (rx_fin D b ca)) H0 cells slots Q nL (rx_m (rx_fin D b ca) σ) pc lo (.ref (rg_A (rx_fin D b ca) 71) :: rest) :=
  rx_get C u_Mod rfl (k := 7) (Nat.le_of_ble_eq_true rfl) (rx_in t_528 rfl) hd (rx_lt (by omega)) rfl rfl kk
theorem g_Mod_19 (C : rx_Cw p s m args meth c R_Mod cc nL ret (rx_fin D b ca))  (hd : decode cc pc = .ok (.getfield 19, 3))
    (kk : rx_X p l e R s m args below meth c (rg_O (rx_fin D b ca)) H0 cells slots Q nL (rx_m (rx_fin D b ca) σ) (pc + 3) lo (.ref (rg_A (rx_fin D b ca) 75) :: rest)) : rx_X p l e R s m args below meth c (rg_O (rx_fin D b ca)) H0 cells slots Q nL (rx_m (rx_fin D b ca) σ) pc lo (.ref (rg_A (rx_fin D b ca) 71) :: rest) :=
  rx_get C u_Mod rfl (k := 8) (Nat.le_of_ble_eq_true rfl) (rx_in t_529 rfl) hd (rx_lt (by omega)) rfl rfl kk
theorem g_Mod_22 (C : rx_Cw p s m args meth c R_Mod cc nL ret (rx_fin D b ca))  (hd : decode cc pc = .ok (.getfield 22, 3))
    (kk : rx_X p l e R s m args below meth c (rg_O (rx_fin D b ca)) H0 cells slots Q nL (rx_m (rx_fin D b ca) σ) (pc + 3) lo (.ref (rg_A (rx_fin D b ca) 76) :: rest)) : rx_X p l e R s m args below meth c (rg_O (rx_fin D b ca)) H0 cells slots Q nL (rx_m (rx_fin D b ca) σ) pc lo (.ref (rg_A (rx_fin D b ca) 71) :: rest) :=
  rx_get C u_Mod rfl (k := 9) (Nat.le_of_ble_eq_true rfl) (rx_in t_530 rfl) hd (rx_lt (by omega)) rfl rfl kk
theorem g_Mod_25 (C : rx_Cw p s m args meth c R_Mod cc nL ret (rx_fin D b ca))  (hd : decode cc pc = .ok (.getfield 25, 3))
    (kk : rx_X p l e R s m args below meth c (rg_O (rx_fin D b ca)) H0 cells slots Q nL (rx_m (rx_fin D b ca) σ) (pc + 3) lo (.ref (rg_A (rx_fin D b ca) 77) :: rest)) : rx_X p l e R s m args below meth c (rg_O (rx_fin D b ca)) H0 cells slots Q nL (rx_m (rx_fin D b ca) σ) pc lo (.ref (rg_A (rx_fin D b ca) 71) :: rest) :=
  rx_get C u_Mod rfl (k := 10) (Nat.le_of_ble_eq_true rfl) (rx_in t_531 rfl) hd (rx_lt (by omega)) rfl rfl kk
theorem g_Mod_28 (C : rx_Cw p s m args meth c R_Mod cc nL ret (rx_fin D b ca))  (hd : decode cc pc = .ok (.getfield 28, 3))
    (kk : rx_X p l e R s m args below meth c (rg_O (rx_fin D b ca)) H0 cells slots Q nL (rx_m (rx_fin D b ca) σ) (pc + 3) lo (.ref (rg_A (rx_fin D b ca) 78) :: rest)) : rx_X p l e R s m args below meth c (rg_O (rx_fin D b ca)) H0 cells slots Q nL (rx_m (rx_fin D b ca) σ) pc lo (.ref (rg_A (rx_fin D b ca) 71) :: rest) :=
  rx_get C u_Mod rfl (k := 11) (Nat.le_of_ble_eq_true rfl) (rx_in t_532 rfl) hd (rx_lt (by omega)) rfl rfl kk
theorem g_Mod_31 (C : rx_Cw p s m args meth c R_Mod cc nL ret (rx_fin D b ca))  (hd : decode cc pc = .ok (.getfield 31, 3))
    (kk : rx_X p l e R s m args below meth c (rg_O (rx_fin D b ca)) H0 cells slots Q nL (rx_m (rx_fin D b ca) σ) (pc + 3) lo (.ref (rg_A (rx_fin D b ca) 79) :: rest)) : rx_X p l e R s m args below meth c (rg_O (rx_fin D b ca)) H0 cells slots Q nL (rx_m (rx_fin D b ca) σ) pc lo (.ref (rg_A (rx_fin D b ca) 71) :: rest) :=
  rx_get C u_Mod rfl (k := 12) (Nat.le_of_ble_eq_true rfl) (rx_in t_533 rfl) hd (rx_lt (by omega)) rfl rfl kk
theorem g_Mod_34 (C : rx_Cw p s m args meth c R_Mod cc nL ret (rx_fin D b ca))  (hd : decode cc pc = .ok (.getfield 34, 3))
    (kk : rx_X p l e R s m args below meth c (rg_O (rx_fin D b ca)) H0 cells slots Q nL (rx_m (rx_fin D b ca) σ) (pc + 3) lo (.ref (rg_A (rx_fin D b ca) 80) :: rest)) : rx_X p l e R s m args below meth c (rg_O (rx_fin D b ca)) H0 cells slots Q nL (rx_m (rx_fin D b ca) σ) pc lo (.ref (rg_A (rx_fin D b ca) 71) :: rest) :=
  rx_get C u_Mod rfl (k := 13) (Nat.le_of_ble_eq_true rfl) (rx_in t_534 rfl) hd (rx_lt (by omega)) rfl rfl kk
theorem g_Mod_37 (C : rx_Cw p s m args meth c R_Mod cc nL ret (rx_fin D b ca))  (hd : decode cc pc = .ok (.getfield 37, 3))
    (kk : rx_X p l e R s m args below meth c (rg_O (rx_fin D b ca)) H0 cells slots Q nL (rx_m (rx_fin D b ca) σ) (pc + 3) lo (.ref (rg_A (rx_fin D b ca) 81) :: rest)) : rx_X p l e R s m args below meth c (rg_O (rx_fin D b ca)) H0 cells slots Q nL (rx_m (rx_fin D b ca) σ) pc lo (.ref (rg_A (rx_fin D b ca) 71) :: rest) :=
  rx_get C u_Mod rfl (k := 14) (Nat.le_of_ble_eq_true rfl) (rx_in t_535 rfl) hd (rx_lt (by omega)) rfl rfl kk
theorem g_Mod_40 (C : rx_Cw p s m args meth c R_Mod cc nL ret (rx_fin D b ca))  (hd : decode cc pc = .ok (.getfield 40, 3))
    (kk : rx_X p l e R s m args below meth c (rg_O (rx_fin D b ca)) H0 cells slots Q nL (rx_m (rx_fin D b ca) σ) (pc + 3) lo (.ref (rg_A (rx_fin D b ca) 82) :: rest)) : rx_X p l e R s m args below meth c (rg_O (rx_fin D b ca)) H0 cells slots Q nL (rx_m (rx_fin D b ca) σ) pc lo (.ref (rg_A (rx_fin D b ca) 71) :: rest) :=
  rx_get C u_Mod rfl (k := 15) (Nat.le_of_ble_eq_true rfl) (rx_in t_536 rfl) hd (rx_lt (by omega)) rfl rfl kk
theorem g_Mod_43 (C : rx_Cw p s m args meth c R_Mod cc nL ret (rx_fin D b ca))  (hd : decode cc pc = .ok (.getfield 43, 3))
    (kk : rx_X p l e R s m args below meth c (rg_O (rx_fin D b ca)) H0 cells slots Q nL (rx_m (rx_fin D b ca) σ) (pc + 3) lo (.ref (rg_A (rx_fin D b ca) 83) :: rest)) : rx_X p l e R s m args below meth c (rg_O (rx_fin D b ca)) H0 cells slots Q nL (rx_m (rx_fin D b ca) σ) pc lo (.ref (rg_A (rx_fin D b ca) 71) :: rest) :=
  rx_get C u_Mod rfl (k := 16) (Nat.le_of_ble_eq_true rfl) (rx_in t_537 rfl) hd (rx_lt (by omega)) rfl rfl kk
theorem g_Mod_46 (C : rx_Cw p s m args meth c R_Mod cc nL ret (rx_fin D b ca))  (hd : decode cc pc = .ok (.getfield 46, 3))
    (kk : rx_X p l e R s m args below meth c (rg_O (rx_fin D b ca)) H0 cells slots Q nL (rx_m (rx_fin D b ca) σ) (pc + 3) lo (.ref (rg_A (rx_fin D b ca) 84) :: rest)) : rx_X p l e R s m args below meth c (rg_O (rx_fin D b ca)) H0 cells slots Q nL (rx_m (rx_fin D b ca) σ) pc lo (.ref (rg_A (rx_fin D b ca) 71) :: rest) :=
  rx_get C u_Mod rfl (k := 17) (Nat.le_of_ble_eq_true rfl) (rx_in t_538 rfl) hd (rx_lt (by omega)) rfl rfl kk
theorem g_Mod_49 (C : rx_Cw p s m args meth c R_Mod cc nL ret (rx_fin D b ca))  (hd : decode cc pc = .ok (.getfield 49, 3))
    (kk : rx_X p l e R s m args below meth c (rg_O (rx_fin D b ca)) H0 cells slots Q nL (rx_m (rx_fin D b ca) σ) (pc + 3) lo (.ref (rg_A (rx_fin D b ca) 85) :: rest)) : rx_X p l e R s m args below meth c (rg_O (rx_fin D b ca)) H0 cells slots Q nL (rx_m (rx_fin D b ca) σ) pc lo (.ref (rg_A (rx_fin D b ca) 71) :: rest) :=
  rx_get C u_Mod rfl (k := 18) (Nat.le_of_ble_eq_true rfl) (rx_in t_539 rfl) hd (rx_lt (by omega)) rfl rfl kk
theorem g_Mod_52 (C : rx_Cw p s m args meth c R_Mod cc nL ret (rx_fin D b ca))  (hd : decode cc pc = .ok (.getfield 52, 3))
    (kk : rx_X p l e R s m args below meth c (rg_O (rx_fin D b ca)) H0 cells slots Q nL (rx_m (rx_fin D b ca) σ) (pc + 3) lo (.ref (rg_A (rx_fin D b ca) 86) :: rest)) : rx_X p l e R s m args below meth c (rg_O (rx_fin D b ca)) H0 cells slots Q nL (rx_m (rx_fin D b ca) σ) pc lo (.ref (rg_A (rx_fin D b ca) 71) :: rest) :=
  rx_get C u_Mod rfl (k := 19) (Nat.le_of_ble_eq_true rfl) (rx_in t_540 rfl) hd (rx_lt (by omega)) rfl rfl kk
theorem g_Mod_55 (C : rx_Cw p s m args meth c R_Mod cc nL ret (rx_fin D b ca))  (hd : decode cc pc = .ok (.getfield 55, 3))
    (kk : rx_X p l e R s m args below meth c (rg_O (rx_fin D b ca)) H0 cells slots Q nL (rx_m (rx_fin D b ca) σ) (pc + 3) lo (.ref (rg_A (rx_fin D b ca) 87) :: rest)) : rx_X p l e R s m args below meth c (rg_O (rx_fin D b ca)) H0 cells slots Q nL (rx_m (rx_fin D b ca) σ) pc lo (.ref (rg_A (rx_fin D b ca) 71) :: rest) :=
  rx_get C u_Mod rfl (k := 20) (Nat.le_of_ble_eq_true rfl) (rx_in t_541 rfl) hd (rx_lt (by omega)) rfl rfl kk
theorem g_Mod_58 (C : rx_Cw p s m args meth c R_Mod cc nL ret (rx_fin D b ca))  (hd : decode cc pc = .ok (.getfield 58, 3))
    (kk : rx_X p l e R s m args below meth c (rg_O (rx_fin D b ca)) H0 cells slots Q nL (rx_m (rx_fin D b ca) σ) (pc + 3) lo (.ref (rg_A (rx_fin D b ca) 88) :: rest)) : rx_X p l e R s m args below meth c (rg_O (rx_fin D b ca)) H0 cells slots Q nL (rx_m (rx_fin D b ca) σ) pc lo (.ref (rg_A (rx_fin D b ca) 71) :: rest) :=
  rx_get C u_Mod rfl (k := 21) (Nat.le_of_ble_eq_true rfl) (rx_in t_542 rfl) hd (rx_lt (by omega)) rfl rfl kk
theorem g_Mod_61 (C : rx_Cw p s m args meth c R_Mod cc nL ret (rx_fin D b ca))  (hd : decode cc pc = .ok (.getfield 61, 3))
    (kk : rx_X p l e R s m args below meth c (rg_O (rx_fin D b ca)) H0 cells slots Q nL (rx_m (rx_fin D b ca) σ) (pc + 3) lo (.ref (rg_A (rx_fin D b ca) 89) :: rest)) : rx_X p l e R s m args below meth c (rg_O (rx_fin D b ca)) H0 cells slots Q nL (rx_m (rx_fin D b ca) σ) pc lo (.ref (rg_A (rx_fin D b ca) 71) :: rest) :=
  rx_get C u_Mod rfl (k := 22) (Nat.le_of_ble_eq_true rfl) (rx_in t_543 rfl) hd (rx_lt (by omega)) rfl rfl kk
theorem g_Mod_64 (C : rx_Cw p s m args meth c R_Mod cc nL ret (rx_fin D b ca))  (hd : decode cc pc = .ok (.getfield 64, 3))
    (kk : rx_X p l e R s m args below meth c (rg_O (rx_fin D b ca)) H0 cells slots Q nL (rx_m (rx_fin D b ca) σ) (pc + 3) lo (.ref (rg_A (rx_fin D b ca) 90) :: rest)) : rx_X p l e R s m args below meth c (rg_O (rx_fin D b ca)) H0 cells slots Q nL (rx_m (rx_fin D b ca) σ) pc lo (.ref (rg_A (rx_fin D b ca) 71) :: rest) :=
  rx_get C u_Mod rfl (k := 23) (Nat.le_of_ble_eq_true rfl) (rx_in t_544 rfl) hd (rx_lt (by omega)) rfl rfl kk
theorem g_Mod_67 (C : rx_Cw p s m args meth c R_Mod cc nL ret (rx_fin D b ca))  (hd : decode cc pc = .ok (.getfield 67, 3))
    (kk : rx_X p l e R s m args below meth c (rg_O (rx_fin D b ca)) H0 cells slots Q nL (rx_m (rx_fin D b ca) σ) (pc + 3) lo (.ref (rg_A (rx_fin D b ca) 91) :: rest)) : rx_X p l e R s m args below meth c (rg_O (rx_fin D b ca)) H0 cells slots Q nL (rx_m (rx_fin D b ca) σ) pc lo (.ref (rg_A (rx_fin D b ca) 71) :: rest) :=
  rx_get C u_Mod rfl (k := 24) (Nat.le_of_ble_eq_true rfl) (rx_in t_545 rfl) hd (rx_lt (by omega)) rfl rfl kk
theorem g_Mod_70 (C : rx_Cw p s m args meth c R_Mod cc nL ret (rx_fin D b ca))  (hd : decode cc pc = .ok (.getfield 70, 3))
    (kk : rx_X p l e R s m args below meth c (rg_O (rx_fin D b ca)) H0 cells slots Q nL (rx_m (rx_fin D b ca) σ) (pc + 3) lo (.ref (rg_A (rx_fin D b ca) 92) :: rest)) : rx_X p l e R s m args below meth c (rg_O (rx_fin D b ca)) H0 cells slots Q nL (rx_m (rx_fin D b ca) σ) pc lo (.ref (rg_A (rx_fin D b ca) 71) :: rest) :=
  rx_get C u_Mod rfl (k := 25) (Nat.le_of_ble_eq_true rfl) (rx_in t_546 rfl) hd (rx_lt (by omega)) rfl rfl kk
theorem g_Mod_73 (C : rx_Cw p s m args meth c R_Mod cc nL ret (rx_fin D b ca))  (hd : decode cc pc = .ok (.getfield 73, 3))
    (kk : rx_X p l e R s m args below meth c (rg_O (rx_fin D b ca)) H0 cells slots Q nL (rx_m (rx_fin D b ca) σ) (pc + 3) lo (.ref (rg_A (rx_fin D b ca) 93) :: rest)) : rx_X p l e R s m args below meth c (rg_O (rx_fin D b ca)) H0 cells slots Q nL (rx_m (rx_fin D b ca) σ) pc lo (.ref (rg_A (rx_fin D b ca) 71) :: rest) :=
  rx_get C u_Mod rfl (k := 26) (Nat.le_of_ble_eq_true rfl) (rx_in t_547 rfl) hd (rx_lt (by omega)) rfl rfl kk
theorem g_Mod_76 (C : rx_Cw p s m args meth c R_Mod cc nL ret (rx_fin D b ca))  (hd : decode cc pc = .ok (.getfield 76, 3))
    (kk : rx_X p l e R s m args below meth c (rg_O (rx_fin D b ca)) H0 cells slots Q nL (rx_m (rx_fin D b ca) σ) (pc + 3) lo (.ref (rg_A (rx_fin D b ca) 94) :: rest)) : rx_X p l e R s m args below meth c (rg_O (rx_fin D b ca)) H0 cells slots Q nL (rx_m (rx_fin D b ca) σ) pc lo (.ref (rg_A (rx_fin D b ca) 71) :: rest) :=
  rx_get C u_Mod rfl (k := 27) (Nat.le_of_ble_eq_true rfl) (rx_in t_548 rfl) hd (rx_lt (by omega)) rfl rfl kk
theorem g_Mod_79 (C : rx_Cw p s m args meth c R_Mod cc nL ret (rx_fin D b ca))  (hd : decode cc pc = .ok (.getfield 79, 3))
    (kk : rx_X p l e R s m args below meth c (rg_O (rx_fin D b ca)) H0 cells slots Q nL (rx_m (rx_fin D b ca) σ) (pc + 3) lo (.ref (rg_A (rx_fin D b ca) 95) :: rest)) : rx_X p l e R s m args below meth c (rg_O (rx_fin D b ca)) H0 cells slots Q nL (rx_m (rx_fin D b ca) σ) pc lo (.ref (rg_A (rx_fin D b ca) 71) :: rest) :=
  rx_get C u_Mod rfl (k := 28) (Nat.le_of_ble_eq_true rfl) (rx_in t_549 rfl) hd (rx_lt (by omega)) rfl rfl kk
theorem g_Mod_82 (C : rx_Cw p s m args meth c R_Mod cc nL ret (rx_fin D b ca))  (hd : decode cc pc = .ok (.getfield 82, 3))
    (kk : rx_X p l e R s m args below meth c (rg_O (rx_fin D b ca)) H0 cells slots Q nL (rx_m (rx_fin D b ca) σ) (pc + 3) lo (.int (σ 71 0) :: rest)) : rx_X p l e R s m args below meth c (rg_O (rx_fin D b ca)) H0 cells slots Q nL (rx_m (rx_fin D b ca) σ) pc lo (.ref (rg_A (rx_fin D b ca) 71) :: rest) :=
  rx_get C u_Mod rfl (k := 0) (Nat.le_of_ble_eq_true rfl) (rx_in t_521 rfl) hd (rx_lt (by omega)) rfl rfl kk
theorem g_Mod_86 (C : rx_Cw p s m args meth c R_Mod cc nL ret (rx_fin D b ca))  (hd : decode cc pc = .ok (.getfield 86, 3))
    (kk : rx_X p l e R s m args below meth c (rg_O (rx_fin D b ca)) H0 cells slots Q nL (rx_m (rx_fin D b ca) σ) (pc + 3) lo (.int (σ 71 1) :: rest)) : rx_X p l e R s m args below meth c (rg_O (rx_fin D b ca)) H0 cells slots Q nL (rx_m (rx_fin D b ca) σ) pc lo (.ref (rg_A (rx_fin D b ca) 71) :: rest) :=
  rx_get C u_Mod rfl (k := 1) (Nat.le_of_ble_eq_true rfl) (rx_in t_522 rfl) hd (rx_lt (by omega)) rfl rfl kk
theorem g_Mod_89 (C : rx_Cw p s m args meth c R_Mod cc nL ret (rx_fin D b ca))  (hd : decode cc pc = .ok (.getfield 89, 3))
    (kk : rx_X p l e R s m args below meth c (rg_O (rx_fin D b ca)) H0 cells slots Q nL (rx_m (rx_fin D b ca) σ) (pc + 3) lo (.int (σ 71 2) :: rest)) : rx_X p l e R s m args below meth c (rg_O (rx_fin D b ca)) H0 cells slots Q nL (rx_m (rx_fin D b ca) σ) pc lo (.ref (rg_A (rx_fin D b ca) 71) :: rest) :=
  rx_get C u_Mod rfl (k := 2) (Nat.le_of_ble_eq_true rfl) (rx_in t_523 rfl) hd (rx_lt (by omega)) rfl rfl kk
theorem g_Mod_93 (C : rx_Cw p s m args meth c R_Mod cc nL ret (rx_fin D b ca))  (hd : decode cc pc = .ok (.getfield 93, 3))
    (kk : rx_X p l e R s m args below meth c (rg_O (rx_fin D b ca)) H0 cells slots Q nL (rx_m (rx_fin D b ca) σ) (pc + 3) lo (.int (σ 71 4) :: rest)) : rx_X p l e R s m args below meth c (rg_O (rx_fin D b ca)) H0 cells slots Q nL (rx_m (rx_fin D b ca) σ) pc lo (.ref (rg_A (rx_fin D b ca) 71) :: rest) :=
  rx_get C u_Mod rfl (k := 4) (Nat.le_of_ble_eq_true rfl) (rx_in t_525 rfl) hd (rx_lt (by omega)) rfl rfl kk
theorem g_Mod_113 (C : rx_Cw p s m args meth c R_Mod cc nL ret (rx_fin D b ca))  (hd : decode cc pc = .ok (.getfield 113, 3))
    (kk : rx_X p l e R s m args below meth c (rg_O (rx_fin D b ca)) H0 cells slots Q nL (rx_m (rx_fin D b ca) σ) (pc + 3) lo (.int (σ 71 3) :: rest)) : rx_X p l e R s m args below meth c (rg_O (rx_fin D b ca)) H0 cells slots Q nL (rx_m (rx_fin D b ca) σ) pc lo (.ref (rg_A (rx_fin D b ca) 71) :: rest) :=
  rx_get C u_Mod rfl (k := 3) (Nat.le_of_ble_eq_true rfl) (rx_in t_524 rfl) hd (rx_lt (by omega)) rfl rfl kk
theorem p_Mod_93 (C : rx_Cw p s m args meth c R_Mod cc nL ret (rx_fin D b ca))  {x : Int32} (hd : decode cc pc = .ok (.putfield 93, 3)) (hv : 0 ≤ x.toInt ∧ x.toInt ≤ 40)
    (kk : rx_X p l e R s m args below meth c (rg_O (rx_fin D b ca)) H0 cells slots Q nL (rx_m (rx_fin D b ca) (rx_wr σ 71 4 x)) (pc + 3) lo rest) : rx_X p l e R s m args below meth c (rg_O (rx_fin D b ca)) H0 cells slots Q nL (rx_m (rx_fin D b ca) σ) pc lo (.int x :: .ref (rg_A (rx_fin D b ca) 71) :: rest) :=
  rx_put C u_Mod t_Mod_ok n_Mod rfl (k := 4) (Nat.le_of_ble_eq_true rfl) (rx_in t_525 rfl) rfl (by decide +kernel) hd (rx_lt (by omega)) rfl (Nat.le_of_ble_eq_true rfl) rfl (rx_SI_many hv) kk
theorem p_Mod_113 (C : rx_Cw p s m args meth c R_Mod cc nL ret (rx_fin D b ca))  {x : Int32} (hd : decode cc pc = .ok (.putfield 113, 3))
    (kk : rx_X p l e R s m args below meth c (rg_O (rx_fin D b ca)) H0 cells slots Q nL (rx_m (rx_fin D b ca) (rx_wr σ 71 3 x)) (pc + 3) lo rest) : rx_X p l e R s m args below meth c (rg_O (rx_fin D b ca)) H0 cells slots Q nL (rx_m (rx_fin D b ca) σ) pc lo (.int x :: .ref (rg_A (rx_fin D b ca) 71) :: rest) :=
  rx_put C u_Mod t_Mod_ok n_Mod rfl (k := 3) (Nat.le_of_ble_eq_true rfl) (rx_in t_524 rfl) rfl (by decide +kernel) hd (rx_lt (by omega)) rfl (Nat.le_of_ble_eq_true rfl) rfl (rx_SI_wr (by omega)) kk
end RXF
