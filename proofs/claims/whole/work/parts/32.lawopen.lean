
/-! THE CLAIM OUT OF ONE WALK OF THE LAW'S BODY. Your part is whole_start (and what it stands on); all else here is the same for every law, but numbers. -/
def R_law : String := "RoamingNetLaw"
def lw_P (b : Addr) (xs : List Int32) (args : Array Value) (s : State) : Prop := args = #[.ref b] ∧ s.IntsAt b xs ∧ xs.length ≤ 3587 ∧ (Jvm.Cond.and given_1 narrow_1).before args s = true
def lw_Q (_ : Array Value) (s : State) (o : Outcome) (t : State) : Prop := o = .returned (some (.int 1)) ∧ Framed s o t [] 600000 7302250
def lw_Z (below : List Frame) (a : Array Value) (s : State) : State → Prop := fun t => ∃ o, t.status = .running ∧ Ended t below o ∧ lw_Q a s o t
/-- the law's own end, with 1 on the stack, nothing written that was there before, its room as the claim has it -/
theorem lw_ret {p : Program} {l : Launch} {e : Env} {s : State} {m : MethodId} {below : List Frame} {meth : Method} {c : Code} {b : Nat} (hx : p.tables.exec = Jvm.exec) (hb : c.code = code) (hr : meth.sig.returnType = ret) (hlocks : meth.locks = false) {pc : Nat} {H : Heap} {ls : Array Slot} (hdg : decode code pc = .ok (.ireturn, 1)) : W p l e room_1 s m #[Value.ref b] below meth c H [] 600000 7302250 (lw_Z below #[Value.ref b] s) (F0 m pc ls [.int 1]) := by
  intro T hT X
  obtain ⟨fs, hret, hrun, hended, hW, hframe⟩ := X.leave (v := some (.int 1)) (hlocks := hlocks) (fun h => by rw [hr] at h; cases h)
  have hmeth' : T.vm.method? m = some meth := X.method'
  refine ⟨T.setFrames fs, ?_, .returned (some (.int 1)), hrun, hended, rfl, ⟨_, rfl⟩, hW, hframe⟩
  jvm_step X.here [X.here.top, hx, hb, hdg, hmeth', hr, ret, narrow_b1]
  (try refine ⟨rfl, ?_⟩); (try refine ⟨rfl, ?_⟩)
  first | (intro acts; rw [hret _ acts rfl rfl rfl]) | rw [hret _ _ rfl rfl rfl]
  exact Steps.refl _
/-- what holds at the law's entry: the machine, the code, the tables' words (any of lw_tbl by 'hts w (by decide +kernel)'), the script of L ints xs at the cell b, what the Statement gives of the start (any of its parts by flat_of_before) -/
def lw_At (p : Program) (s : State) (m : MethodId) (meth : Method) (c : Code) (b L : Nat) (xs : Nat → Int32) : Prop :=
  p.tables.exec = Jvm.exec ∧ c.code = code ∧ meth.sig.returnType = ret ∧ c.maxLocals = 4 ∧ s.vm.findClass R_law = some m.cls ∧ (∀ w ∈ lw_tbl, w.before #[Value.ref b] s = true) ∧ va_X b L xs s s.heap ∧ b < s.heap.size ∧ meth.locks = false ∧ (Jvm.Cond.and given_1 narrow_1).before #[Value.ref b] s = true

theorem whole_open {Rel : Nat → rMem → Prop} (hok : lw_ok Rel) (h0 : ∀ x y z : Int32, Rel 0 (rx_s0 x y z)) {p : Program} {e : Env} {s : State} {m : MethodId} {below : List Frame} {meth : Method} {c : Code} (l : Launch) {b L : Nat} {xs : Nat → Int32} (hL : L ≤ 3587) (C0 : lw_At p s m meth c b L xs) : W p l e room_1 s m #[Value.ref b] below meth c s.heap [] 0 0 (lw_Z below #[Value.ref b] s) (entryFrame m ([Value.ref b] : List Value).toArray 4) := by
  obtain ⟨hx, hb, hr, hml, hown, hts, hX, hbl, hlocks, hgv⟩ := C0
  have htsW : ∀ w ∈ rx_W, w.before #[Value.ref b] s = true := fun w hw => hts w (List.mem_filter.mp hw).1
  obtain ⟨c0, i0, K0⟩ := u_known (C := R_Net) (T := F_Net) (N := 6) htsW u_Net (hts _ t_11)
  obtain ⟨c1, i1, K1⟩ := u_known (C := R_Msg) (T := F_Msg) (N := 9) htsW u_Msg (hts _ t_29)
  obtain ⟨c2, i2, K2⟩ := u_known (C := R_Wire) (T := F_Wire) (N := 3) htsW u_Wire (hts _ t_22)
  obtain ⟨c3, i3, K3⟩ := u_known (C := R_Mob) (T := F_Mob) (N := 14) htsW u_Mob (hts _ t_112)
  obtain ⟨c4, i4, K4⟩ := u_known (C := R_Home) (T := F_Home) (N := 6) htsW u_Home (hts _ t_167)
  obtain ⟨c5, i5, K5⟩ := u_known (C := R_Fa) (T := F_Fa) (N := 6) htsW u_Fa (hts _ t_197)
  obtain ⟨c6, i6, K6⟩ := u_known (C := R_Corr) (T := F_Corr) (N := 5) htsW u_Corr (hts _ t_223)
  obtain ⟨c7, i7, K7⟩ := u_known (C := R_Mod) (T := F_Mod) (N := 29) htsW u_Mod (hts _ t_515)
  obtain ⟨a0, ka0, cm0, f1, f2, f3⟩ := Cond.arrayClass_spec (hts _ t_194)
  obtain ⟨cm1, a1, ka1, p1, q1, r1, s1, t1⟩ := Cond.arrayOver_spec (hts _ t_28)
  obtain ⟨cm2, a2, ka2, p2, q2, r2, s2, t2⟩ := Cond.arrayOver_spec (hts _ t_111)
  obtain ⟨cm3, a3, ka3, p3, q3, r3, s3, t3⟩ := Cond.arrayOver_spec (hts _ t_196)
  have K : rx_K (rx_fin ((fun c => [c0, c1, c2, c3, c4, c5, c6, c7].getD c 0, fun c => [i0, i1, i2, i3, i4, i5, i6, i7].getD c (fun _ => 0)) : va_G) s.heap.size (fun k => [a0, a1, a2, a3].getD k 0)) s := by
    refine ⟨⟨fun c q hq => ?_, fun k q hk => ?_⟩, fun w hw hn => va_Nw.of (rx_nest_tab hn) (hts w hw), fun Cn hc => va_AO.of (hts _ hc)⟩
    · match c, hq with
      | 0, hq =>
        have hq2 : some (R_Net, F_Net, 6) = some q := hq
        cases hq2
        exact K0
      | 1, hq =>
        have hq2 : some (R_Msg, F_Msg, 9) = some q := hq
        cases hq2
        exact K1
      | 2, hq =>
        have hq2 : some (R_Wire, F_Wire, 3) = some q := hq
        cases hq2
        exact K2
      | 3, hq =>
        have hq2 : some (R_Mob, F_Mob, 14) = some q := hq
        cases hq2
        exact K3
      | 4, hq =>
        have hq2 : some (R_Home, F_Home, 6) = some q := hq
        cases hq2
        exact K4
      | 5, hq =>
        have hq2 : some (R_Fa, F_Fa, 6) = some q := hq
        cases hq2
        exact K5
      | 6, hq =>
        have hq2 : some (R_Corr, F_Corr, 5) = some q := hq
        cases hq2
        exact K6
      | 7, hq =>
        have hq2 : some (R_Mod, F_Mod, 29) = some q := hq
        cases hq2
        exact K7
      | c + 8, hq =>
        have hq2 : none = some q := hq
        cases hq2
    · match k, hk with
      | 0, hk =>
        have hk2 : some (a0, FieldType.int) = some q := hk
        cases hk2
        exact ⟨fun n z => ⟨fun k h => (by cases h), ka0, f2, cm0, f3⟩, f1⟩
      | 1, hk =>
        have hk2 : some (a1, FieldType.object R_Msg) = some q := hk
        cases hk2
        exact ⟨fun n z => ⟨fun k h => (by cases h), ka1, r1, cm1, s1⟩, ka1, cm1, r1, s1, p1, t1⟩
      | 2, hk =>
        have hk2 : some (a2, FieldType.object R_Mob) = some q := hk
        cases hk2
        exact ⟨fun n z => ⟨fun k h => (by cases h), ka2, r2, cm2, s2⟩, ka2, cm2, r2, s2, p2, t2⟩
      | 3, hk =>
        have hk2 : some (a3, FieldType.object R_Fa) = some q := hk
        cases hk2
        exact ⟨fun n z => ⟨fun k h => (by cases h), ka3, r3, cm3, s3⟩, ka3, cm3, r3, s3, p3, t3⟩
      | k + 4, hk =>
        have hk2 : none = some q := hk
        cases hk2
  have C : rx_Cw p s m #[Value.ref b] meth c R_Law code 4 (some .boolean) (rx_fin ((fun c => [c0, c1, c2, c3, c4, c5, c6, c7].getD c 0, fun c => [i0, i1, i2, i3, i4, i5, i6, i7].getD c (fun _ => 0)) : va_G) s.heap.size (fun k => [a0, a1, a2, a3].getD k 0)) := ⟨⟨hx, hb, hml, hown, htsW, hlocks, hr⟩, K, rx_fin_D _ _ _⟩
  have X0 := lw_begin (e := e) (below := below) (Q := lw_Z below #[Value.ref b] s) l _ s.heap.size _ hok h0 C hX hbl (by omega) hL (fun i σ H locs ls hP hS hl => by
    refine lv_iconst (v := 1) hx hb d_Law_law_606 (by decide) ?_
    refine va_forget (fun q hq => hS.2.2 q hq) ?_
    refine W.widen (k := 600000) (n := 7302250) (Nat.le_of_ble_eq_true rfl) (Nat.le_of_ble_eq_true rfl) ?_
    exact lw_ret hx hb hr hlocks d_Law_law_607)
  rw [lg_entry_eq]
  exact X0 s.heap [] _ ⟨fun k q hk => by simp [rz_w] at hk, rfl⟩ va_S.rf (rx_has.entry [.ref b] (Nat.le_of_ble_eq_true rfl) (fun j w hj => by
    have h1 := rx_lk_mem hj
    have h2 : (j, w) ∈ [(0, Value.ref b)] := h1
    rcases List.mem_cons.mp h2 with h | h
    · cases h; rfl
    · cases h))
