/-! making: cells by number, each with what it holds; the heap's size is known, so the next cell's address is -/
def rz_w (b n : Nat) (F : Nat → va_E) : va_W := (List.range n).map (fun i => (b + i, F i))
theorem rz_at {b n i : Nat} {F : Nat → va_E} (hi : i < n) : (rz_w b n F)[i]? = some (b + i, F i) := by simp [rz_w, hi]
theorem rz_set {b n i : Nat} {F : Nat → va_E} {x : va_E} (hi : i < n) : (rz_w b n F).set i (b + i, x) = rz_w b n (va_up F i x) := by
  apply List.ext_getElem?
  intro j
  by_cases hj : j = i
  · subst hj
    rw [List.getElem?_set_self (by simp [rz_w, hi]), rz_at hi, va_up_self]
  · rw [List.getElem?_set_ne (Ne.symm hj)]
    simp only [rz_w, List.getElem?_map]
    cases h : (List.range n)[j]? with
    | none => rfl
    | some a =>
      obtain ⟨h1, -⟩ := rx_range h
      subst h1
      simp [va_up, hj]
theorem rz_push {b n : Nat} {F : Nat → va_E} {x : va_E} : rz_w b n F ++ [(b + n, x)] = rz_w b (n + 1) (va_up F n x) := by
  unfold rz_w
  rw [List.range_succ, List.map_append, List.map_cons, List.map_nil, va_up_self]
  congr 1
  apply List.map_congr_left
  intro a ha
  have h := List.mem_range.mp ha
  rw [va_up_ne F x (by omega)]
theorem rz_D {b n : Nat} {F : Nat → va_E} : va_D (fun q => b ≤ q) (rz_w b n F) := by
  have key : ∀ (k : Nat) (q : Nat × va_E), (rz_w b n F)[k]? = some q → q.1 = b + k := by
    intro k q hk
    simp only [rz_w, List.getElem?_map] at hk
    cases hr : (List.range n)[k]? with
    | none => rw [hr] at hk; cases hk
    | some a =>
      obtain ⟨h1, h2⟩ := rx_range hr
      rw [hr] at hk
      cases hk
      subst h1
      rfl
  refine ⟨fun i j x y hi hj hxy => ?_, fun k q hk => ?_⟩
  · have a := key i x hi
    have b := key j y hj
    omega
  · have a := key k q hk
    show b ≤ q.1
    omega
def rz_m (D : va_G) (b n : Nat) (F : Nat → va_E) (H : Heap) : Prop := va_P D rx_cl (rz_w b n F) H ∧ H.size = b + n
def rz_Q (D : va_G) (b n : Nat) (F : Nat → va_E) : Array Value → State → Outcome → State → Prop := fun _ st oc t => oc = .returned none ∧ rz_m D b n F t.heap ∧ va_F (fun q => b ≤ q) st t
def rz_P (D : va_G) (b : Nat) (ca : Nat → ClassId) (av : List Value) (n : Nat) (F : Nat → va_E) : Array Value → State → Prop := va_Pc av (fun U => rz_m D b n F U.heap ∧ rx_K (rx_fin D b ca) U)
/-- a maker's contract -/
def rz_C (l : Launch) (D : va_G) (b : Nat) (ca : Nat → ClassId) (y : MethodName) (cb : ByteArray) (nL : Nat) (rm : Room) (av : List Value) (n : Nat) (F : Nat → va_E) (n' : Nat) (F' : Nat → va_E) (mc ms : Nat) : Prop :=
  Met l y (.code y cb nL none :: rx_W) rm (rz_P D b ca av n F) (rz_Q D b n' F') mc ms (fun q => b ≤ q)
def rz_rm (d mc ms : Nat) : Room := { frames := d, cells := mc, slots := ms, locals := 40 * d }
theorem rz_blind {D : va_G} {b n : Nat} {ca : Nat → ClassId} {av : List Value} {F : Nat → va_E} : FrameBlind (rz_P D b ca av n F) := fun a U g mk q => by
  obtain ⟨q0, qP, qK⟩ := q
  exact ⟨q0, qP, rx_K.same (s := U) (U := U.calling g mk a) (show U.vm = (U.calling g mk a).vm from rfl) qK⟩
theorem rz_pre {D : va_G} {b n : Nat} {ca : Nat → ClassId} {av : List Value} {F : Nat → va_E} {s : State} {H : Heap} (hP : rz_m D b n F H) (hK : rx_K (rx_fin D b ca) s) : ∀ U : State, U.heap = H → s.WarmedH U.vm → rz_P D b ca av n F av.toArray U := fun U hU hW => ⟨rfl, by rw [hU]; exact hP, hK.warm hW⟩
section RZA
variable {p : Program} {l : Launch} {e : Env} {R : Room} {s : State} {m : MethodId} {args : Array Value} {below : List Frame} {meth : Method} {c : Code} {H0 : Heap} {cells slots : Nat} {Q : State → Prop} {nL n : Nat} {F F' : Nat → va_E} {lo : List (Nat × Value)} {rest st : List Value} {own : String} {cc : ByteArray} {ret : Option FieldType} (D : va_G) (b : Nat) (ca : Nat → ClassId)
theorem rz_of {y : MethodName} {rm : Room} {av : List Value} {n' mc ms : Nat} (hy : plainName y.cls = true) (hyn : y.name = "<init>") (hlo : lv_args 0 av = lo) (hl : (lg_sl av).length ≤ nL) (hv : lo.all (fun q => q.2.category == 1) = true)
    (h : ∀ (p : Program) (e : Env) (s : State) (m : MethodId) (below : List Frame) (meth : Method) (c : Code), rx_Cw p s m av.toArray meth c y.cls cc nL none (rx_fin D b ca) → meth.name = "<init>" → b ≤ s.heap.size → rx_X p l e rm s m av.toArray below meth c (fun q => b ≤ q) s.heap 0 0 (MQ below (rz_Q D b n' F') av.toArray s mc ms (fun q => b ≤ q)) nL (rz_m D b n F) 0 lo []) : rz_C l D b ca y cc nL rm av n F n' F' mc ms := by
  refine Met.ofW (cc := cc) (maxL := nL) (ret := none) hy rfl ?_
  intro p e s m args below meth c s₁ B hml hvv
  obtain ⟨rfl, hP, hK⟩ := hvv
  have hts := atoms_spec (ws := .code y cc nL none :: rx_W) B.pre
  rw [lg_entry_eq]
  refine h p e s m below meth c ⟨⟨B.exec, B.bytes, hml, findClass_of_methodNamed B.named, fun w hw => hts w (List.mem_cons_of_mem _ hw), B.notSynchronized, B.returns⟩, hK, rx_fin_D D b ca⟩ ((name_of_methodNamed B.named B.method).1.trans hyn) (by rw [hP.2]; omega) s.heap [] _ hP va_S.rf ?_
  subst hlo
  refine rx_has.entry av hl (fun j w hj => ?_)
  have h1 := List.all_eq_true.mp hv _ (rx_lk_mem hj)
  simpa using h1
theorem rz_ret {pc : Nat} (C : rx_Cw p s m args meth c own cc nL none (rx_fin D b ca)) (hdg : decode cc pc = .ok (.return_, 1)) : rx_X p l e R s m args below meth c (fun q => b ≤ q) s.heap cells slots (MQ below (rz_Q D b n F) args s cells slots (fun q => b ≤ q)) nL (rz_m D b n F) pc lo [] := by
  intro H locs ls hP hS hl
  exact W.vret C.1.1 C.1.2.1 C.1.2.2.2.2.2.2 (fun t ht hW => ⟨rfl, by rw [ht]; exact hP, hS.F ht⟩) hS.2.2 hdg C.1.2.2.2.2.2.1
theorem rz_obj {O : Nat → Prop} {Φ : Heap → Prop} {pc a idx : Nat} (C : rx_Cx p s m args meth c own cc nL ret) (hlink : Cond.methodLink own idx Lib.objectInit ∈ rx_W) (hinst : Cond.instanceMethod Lib.objectInit ∈ rx_W) (hcode : Cond.code Lib.objectInit ⟨#[0xb1]⟩ 1 none ∈ rx_W) (hdg : decode cc pc = .ok (.invokespecial idx, 3)) (hR : 1 ≤ R.frames) (hL : (rest.map fun v => v.category).sum + 12 ≤ R.locals)
    (kk : rx_X p l e R s m args below meth c O H0 cells slots Q nL Φ (pc + 3) lo rest) : rx_X p l e R s m args below meth c O H0 cells slots Q nL Φ pc lo (.ref a :: rest) :=
  fun H locs ls hP hS hl => W.objInit C.1 C.2.1 C.2.2.2.1 (C.2.2.2.2.1 _ hlink) (C.2.2.2.2.1 _ hinst) (C.2.2.2.2.1 _ hcode) rfl (hl.size.trans C.2.2.1.symm) rfl hdg hR (by simpa [JFrame.monitorRoom] using hL) (kk H locs ls hP hS hl)
theorem rz_get {pc i ci k N idx : Nat} {Cn : String} {T : u_T} {fs : List Value} {v : Value} (C : rx_Cw p s m args meth c own cc nL ret (rx_fin D b ca)) (hin : ∀ w ∈ u_ws Cn T N, w ∈ rx_W) (hc : rx_cl[ci]? = some (Cn, T, N)) (hk : k < N) (hlink : Cond.fieldLink own idx (T k).1 (T k).2.1 (T k).2.2.1 ∈ rx_W) (hdg : decode cc pc = .ok (.getfield idx, 3)) (hi : i < n) (he : F i = .inr (ci, fs)) (hv : fs[k]? = some v)
    (kk : rx_X p l e R s m args below meth c (fun q => b ≤ q) H0 cells slots Q nL (rz_m D b n F) (pc + 3) lo (v :: rest)) : rx_X p l e R s m args below meth c (fun q => b ≤ q) H0 cells slots Q nL (rz_m D b n F) pc lo (.ref (b + i) :: rest) :=
  fun H locs ls hP hS hl => va_get (D := D) (ref := (T k).1) C.1.1 C.1.2.1 C.1.2.2.2.2.1 hin C.1.2.2.2.1 C.2.1.1 hP.1 i (by rw [← he]; exact rz_at hi) hc k hk (C.1.2.2.2.2.1 _ hlink) (fun _ h9 => h9) hv hdg (kk H locs ls hP hS hl)
theorem rz_put {pc i ci k N idx : Nat} {Cn : String} {T : u_T} {fs : List Value} {ty0 : Nat → FieldType} {ty : FieldType} {v : Value} (C : rx_Cw p s m args meth c own cc nL ret (rx_fin D b ca)) (hin : ∀ w ∈ u_ws Cn T N, w ∈ rx_W) (hty : ∀ k, k < N → parseFieldDescriptor (T k).2.2.1 = some (ty0 k)) (hnm : ∀ a, a < N → ∀ b, b < N → a ≠ b → (T a).2.1 ≠ (T b).2.1) (hc : rx_cl[ci]? = some (Cn, T, N)) (hk : k < N) (hlink : Cond.fieldLink own idx (T k).1 (T k).2.1 (T k).2.2.1 ∈ rx_W) (hfin : (T k).2.2.2 = false) (hd : parseFieldDescriptor (T k).2.2.1 = some ty) (hn : narrow ty v = v) (hfit : fits ty v = true) (hdg : decode cc pc = .ok (.putfield idx, 3)) (hi : i < n) (he : F i = .inr (ci, fs)) (hl0 : k < fs.length)
    (kk : rx_X p l e R s m args below meth c (fun q => b ≤ q) H0 cells slots Q nL (rz_m D b n (va_up F i (.inr (ci, fs.set k v)))) (pc + 3) lo rest) : rx_X p l e R s m args below meth c (fun q => b ≤ q) H0 cells slots Q nL (rz_m D b n F) pc lo (v :: .ref (b + i) :: rest) := by
  intro H locs ls hP hS0 hl
  have hts := C.1.2.2.2.2.1
  have hK := C.2.1.1
  have heq : (rz_w b n F)[i]? = some (b + i, .inr (ci, fs)) := by rw [← he]; exact rz_at hi
  have hap := va_apart (own := own) hts hin ty0 hty hnm hK hc
  obtain ⟨r, h1, cell, q1, q2, q3, q4⟩ := hP.1 i _ heq
  have hr : r = (Cn, T, N) := Option.some.inj (h1.symm.trans hc)
  subst hr
  obtain ⟨hS, hfc, kC, hkC, hkind⟩ := hK.1 ci _ hc
  obtain ⟨cf, kf, fi, f, hi2, hsl⟩ := hS k hk
  have hlay := hts _ (hin _ (u_in_lay hk))
  unfold u_lay at hlay
  rw [if_neg (by rw [hfin]; decide)] at hlay
  have hst := (u_facts hfc hkC (u_lays hts hin hk) hi2).1
  have h6 := u_store hfc hkC hkind hlay hi2 hd hn hfit
  refine W.putK C.1.1 C.1.2.1 (f := f) ⟨C.1.2.2.2.1, hts _ hlink, ⟨_, _, _, hi2⟩, hst⟩ (by rw [q2]; exact h6) q1 q3 (by rw [hsl]; exact k2_hasslot (q4 k hk)) rfl rfl hdg fun H' e1 e2 e3 => ?_
  rw [hsl] at e1 ⊢
  refine kk H' _ ls ⟨?_, by rw [e2]; exact hP.2⟩ (hS0.put e2 e3 (rz_D.2 i _ heq)) hl
  rw [← rz_set hi]
  exact hP.1.set (rz_D (b := b) (n := n) (F := F)) heq ⟨_, hc, t_OB.to (V := updV (vp_V fs) k v) ⟨_, e1, q2, q3, t_set q4 hap hk v⟩ (fun j _ => vp_updV_set hl0 v j)⟩ e3
theorem rz_putF {pc i ci k N idx : Nat} {Cn : String} {T : u_T} {fs : List Value} {ty0 : Nat → FieldType} {ty : FieldType} {v : Value} (C : rx_Cw p s m args meth c own cc nL ret (rx_fin D b ca)) (hin : ∀ w ∈ u_ws Cn T N, w ∈ rx_W) (hty : ∀ k, k < N → parseFieldDescriptor (T k).2.2.1 = some (ty0 k)) (hnm : ∀ a, a < N → ∀ b, b < N → a ≠ b → (T a).2.1 ≠ (T b).2.1) (hc : rx_cl[ci]? = some (Cn, T, N)) (hk : k < N) (hlink : Cond.fieldLink own idx (T k).1 (T k).2.1 (T k).2.2.1 ∈ rx_W) (hfin : (T k).2.2.2 = true) (hdecl : (T k).1 = own) (hd : parseFieldDescriptor (T k).2.2.1 = some ty) (hn : narrow ty v = v) (hfit : fits ty v = true) (hdg : decode cc pc = .ok (.putfield idx, 3)) (hin2 : meth.name = "<init>") (hi : i < n) (he : F i = .inr (ci, fs)) (hl0 : k < fs.length)
    (kk : rx_X p l e R s m args below meth c (fun q => b ≤ q) H0 cells slots Q nL (rz_m D b n (va_up F i (.inr (ci, fs.set k v)))) (pc + 3) lo rest) : rx_X p l e R s m args below meth c (fun q => b ≤ q) H0 cells slots Q nL (rz_m D b n F) pc lo (v :: .ref (b + i) :: rest) := by
  intro H locs ls hP hS0 hl
  have hts := C.1.2.2.2.2.1
  have hK := C.2.1.1
  have heq : (rz_w b n F)[i]? = some (b + i, .inr (ci, fs)) := by rw [← he]; exact rz_at hi
  have hap := va_apart (own := own) hts hin ty0 hty hnm hK hc
  obtain ⟨r, h1, cell, q1, q2, q3, q4⟩ := hP.1 i _ heq
  have hr : r = (Cn, T, N) := Option.some.inj (h1.symm.trans hc)
  subst hr
  obtain ⟨hS, hfc, kC, hkC, hkind⟩ := hK.1 ci _ hc
  obtain ⟨cf, kf, fi, f, hi2, hsl⟩ := hS k hk
  have hlay := hts _ (hin _ (u_in_lay hk))
  unfold u_lay at hlay
  rw [if_pos hfin] at hlay
  have hst := (u_facts hfc hkC (u_lays hts hin hk) hi2).1
  have hcf : m.cls = cf := by
    obtain ⟨_, _, c', _, _, _, -, -, hf', -, -, -, hown2, -⟩ := Cond.laysFinal_spec hlay
    have e1 : c' = cf := by have := hi2.symm.trans hf'; simp at this; exact this.1.symm
    rw [hdecl] at hown2
    rw [← e1]; exact Option.some.inj (C.1.2.2.2.1.symm.trans hown2)
  have h6 := u_fits hfc hkC hkind (Or.inr hlay) hi2 hd hn hfit
  refine W.putFinK C.1.1 C.1.2.1 C.1.2.2.2.1 (hts _ hlink) hi2 hst hcf hin2 (by rw [q2]; exact h6) q1 q3 (by rw [hsl]; exact k2_hasslot (q4 k hk)) rfl rfl hdg fun H' e1 e2 e3 => ?_
  rw [hsl] at e1 ⊢
  refine kk H' _ ls ⟨?_, by rw [e2]; exact hP.2⟩ (hS0.put e2 e3 (rz_D.2 i _ heq)) hl
  rw [← rz_set hi]
  exact hP.1.set (rz_D (b := b) (n := n) (F := F)) heq ⟨_, hc, t_OB.to (V := updV (vp_V fs) k v) ⟨_, e1, q2, q3, t_set q4 hap hk v⟩ (fun j _ => vp_updV_set hl0 v j)⟩ e3
theorem rz_new {pc ci N idx : Nat} {Cn : String} {T : u_T} {fs : List Value} {ty0 : Nat → FieldType} (C : rx_Cw p s m args meth c own cc nL ret (rx_fin D b ca)) (hin : ∀ w ∈ u_ws Cn T N, w ∈ rx_W) (hty : ∀ k, k < N → parseFieldDescriptor (T k).2.2.1 = some (ty0 k)) (hc : rx_cl[ci]? = some (Cn, T, N)) (hcl : Cond.classLink own idx Cn ∈ rx_W) (hinst : Cond.instantiable Cn N ∈ rx_W) (hini : Cond.initialized Cn ∈ rx_W) (hfs : ∀ j, j < N → defaultValue (ty0 j) = vp_V fs j) (hdg : decode cc pc = .ok (.new idx, 3)) (hcells : cells + 1 ≤ R.cells) (hslots : slots + N ≤ R.slots)
    (kk : rx_X p l e R s m args below meth c (fun q => b ≤ q) H0 (cells + 1) (slots + N) Q nL (rz_m D b (n + 1) (va_up F n (.inr (ci, fs)))) (pc + 3) lo (.ref (b + n) :: rest)) : rx_X p l e R s m args below meth c (fun q => b ≤ q) H0 cells slots Q nL (rz_m D b n F) pc lo rest := by
  intro H locs ls hP hS hl
  have hts := C.1.2.2.2.2.1
  have hKn := C.2.1.1.1 ci _ hc
  refine W.newcK C.1.1 C.1.2.1 C.1.2.2.2.1 (hts _ hcl) (hts _ hinst) (hts _ hini) rfl hdg hcells hslots hKn.2.1 hP.2 fun H1 kC hkC e1 z1 o1 => ?_
  have hz := hP.2
  refine kk H1 locs ls ⟨?_, by rw [z1]; omega⟩ ⟨Nat.le_trans hS.1 (by omega), fun x h1 h2 => (o1 x (by have := hS.1; omega)).trans (hS.2.1 x h1 h2), hS.2.2⟩ hl
  rw [← rz_push]
  refine (hP.1.kept (fun k x hx => o1 x.1 (by rw [← hz]; exact (hP.1 k x hx).lt))).app (fun k x hx => ?_)
  have hz1 : k < 1 := (List.getElem?_eq_some_iff.mp hx).1
  rw [show k = 0 by omega] at hx
  cases hx
  exact ⟨_, hc, (u_born ty0 hts hin hKn hkC e1 hty).to hfs⟩
theorem rz_newa {pc N : Nat} {x : Int32} (C : rx_Cw p s m args meth c own cc nL ret (rx_fin D b ca)) (harr : Cond.arrayClass .int ∈ rx_W) (hdg : decode cc pc = .ok (.newarray .int, 2)) (hn : ¬ x < 0) (hN : x.toNatClampNeg = N) (hbytes : N * componentBytes .int ≤ 536870912) (hcells : cells + 1 ≤ R.cells) (hslots : slots + N ≤ R.slots)
    (kk : rx_X p l e R s m args below meth c (fun q => b ≤ q) H0 (cells + 1) (slots + N) Q nL (rz_m D b (n + 1) (va_up F n (.inl (ca 0, N, .inl (fun _ => 0))))) (pc + 2) lo (.ref (b + n) :: rest)) : rx_X p l e R s m args below meth c (fun q => b ≤ q) H0 cells slots Q nL (rz_m D b n F) pc lo (.int x :: rest) := by
  intro H locs ls hP hS hl
  have hts := C.1.2.2.2.2.1
  have hz := hP.2
  refine va_newaK (atype := .int) C.1.1 C.1.2.1 (hts _ harr) rfl hdg rfl hn hN hbytes hcells hslots hz fun H1 cA e1 z1 o1 hAr hNm => ?_
  have hcA : cA = ca 0 := by
    have h0 := (C.2.1.1.2 0 (ca 0, .int) rfl).2
    exact Option.some.inj (hNm.symm.trans h0)
  subst hcA
  refine kk H1 locs ls ⟨?_, by rw [z1]; omega⟩ ⟨Nat.le_trans hS.1 (by omega), fun x h1 h2 => (o1 x (by have := hS.1; omega)).trans (hS.2.1 x h1 h2), hS.2.2⟩ hl
  rw [← rz_push]
  refine (hP.1.kept (fun k x hx => o1 x.1 (by rw [← hz]; exact (hP.1 k x hx).lt))).app (fun k x hx => ?_)
  have hz1 : k < 1 := (List.getElem?_eq_some_iff.mp hx).1
  rw [show k = 0 by omega] at hx
  cases hx
  show H1[b + n]? = some (vp_cell _ _)
  rw [e1, vp_cell_i]
  rfl
theorem rz_newq {pc N idx t : Nat} {Cn : String} {x : Int32} (C : rx_Cw p s m args meth c own cc nL ret (rx_fin D b ca)) (hcl : Cond.classLink own idx Cn ∈ rx_W) (hover : Cond.arrayOver (.object Cn) ∈ lw_tbl) (ho : va_AO Cn s) (ht : (rx_tys (rx_fin D b ca))[t]? = some (ca t, .object Cn)) (hdg : decode cc pc = .ok (.anewarray idx, 3)) (hn : ¬ x < 0) (hN : x.toNatClampNeg = N) (hbytes : N * 4 ≤ 536870912) (hcells : cells + 1 ≤ R.cells) (hslots : slots + N ≤ R.slots)
    (kk : rx_X p l e R s m args below meth c (fun q => b ≤ q) H0 (cells + 1) (slots + N) Q nL (rz_m D b (n + 1) (va_up F n (.inl (ca t, N, .inr (.inr (.inr (.inr (fun _ => none))))))) ) (pc + 3) lo (.ref (b + n) :: rest)) : rx_X p l e R s m args below meth c (fun q => b ≤ q) H0 cells slots Q nL (rz_m D b n F) pc lo (.int x :: rest) := by
  intro H locs ls hP hS hl
  have hts := C.1.2.2.2.2.1
  have hz := hP.2
  subst hN
  refine W.anew C.1.1 C.1.2.1 C.1.2.2.2.1 (hts _ hcl) (va_AO.use ho) rfl hdg rfl hn hbytes hcells hslots fun cA kA comp f1 f2 f3 f4 => ?_
  have hcA : cA = ca t := by
    obtain ⟨kA', comp', k1, k2, k3, k4⟩ := (C.2.1.1.2 t (ca t, .object Cn) ht).2
    exact Option.some.inj (f1.symm.trans k4)
  subst hcA
  generalize hH1 : H.push ({ cls := ca t, slots := Array.replicate x.toNatClampNeg .null, vm := .none } : Cell) = H1
  have z1 : H1.size = H.size + 1 := by rw [← hH1, Array.size_push]
  have e1 : H1[H.size]? = some (arrV (ca t) x.toNatClampNeg (fun _ => .null)) := by rw [← hH1, Array.getElem?_push_size, ← arrV_new]
  have o1 : ∀ q : Nat, q < H.size → H1[q]? = H[q]? := fun q hq => by rw [← hH1, Array.getElem?_push, if_neg (Nat.ne_of_lt hq)]
  rw [hz] at e1 ⊢
  refine kk H1 locs ls ⟨?_, by rw [z1]; omega⟩ ⟨Nat.le_trans hS.1 (by omega), fun x h1 h2 => (o1 x (by have := hS.1; omega)).trans (hS.2.1 x h1 h2), hS.2.2⟩ hl
  rw [← rz_push]
  refine (hP.1.kept (fun k x hx => o1 x.1 ((hP.1 k x hx).lt))).app (fun k x hx => ?_)
  have hz1 : k < 1 := (List.getElem?_eq_some_iff.mp hx).1
  rw [show k = 0 by omega] at hx
  cases hx
  show H1[b + n]? = some (vp_cell _ _)
  rw [vp_cell_q]
  exact e1
theorem rz_iast {pc i N : Nat} {f : Nat → Int32} {j x : Int32} (C : rx_Cw p s m args meth c own cc nL ret (rx_fin D b ca)) (hdg : decode cc pc = .ok (.iastore, 1)) (hi : i < n) (he : F i = .inl (ca 0, N, .inl f)) (hin : vp_in j N)
    (kk : rx_X p l e R s m args below meth c (fun q => b ≤ q) H0 cells slots Q nL (rz_m D b n (va_up F i (.inl (ca 0, N, .inl (upd f j.toNatClampNeg x))))) (pc + 1) lo rest) : rx_X p l e R s m args below meth c (fun q => b ≤ q) H0 cells slots Q nL (rz_m D b n F) pc lo (.int x :: .int j :: .ref (b + i) :: rest) := by
  intro H locs ls hP hS hl
  have heq : (rz_w b n F)[i]? = some (b + i, .inl (ca 0, N, .inl f)) := by rw [← he]; exact rz_at hi
  refine W.iast C.1.1 C.1.2.1 (hP.1 i _ heq) ((C.2.1.1.2 0 (ca 0, .int) rfl).1 N (fun j => .int (f j))) (fun q => by cases q) (by show ¬ (j < 0 ∨ (arrV _ _ _).slots.size ≤ _); rw [arrV_size]; exact hin) rfl rfl hdg fun H1 e z oq => ?_
  refine kk H1 _ ls ⟨?_, by rw [z]; exact hP.2⟩ (hS.put z oq (rz_D.2 i _ heq)) hl
  rw [← rz_set hi]
  refine hP.1.set (rz_D (b := b) (n := n) (F := F)) heq ?_ oq
  show H1[b + i]? = some (vp_cell _ _)
  rw [e]
  rw [vp_cell_i, vp_cell_i, arrV_store]
  congr 2
  funext q
  by_cases hq : q = j.toNatClampNeg
  · subst hq
    simp [updV, upd]
  · simp [updV, upd, hq]
theorem rz_aast {pc i qk N t ci : Nat} {f : Nat → Option Nat} {j : Int32} {r : vw_C} {vs : List Value} (C : rx_Cw p s m args meth c own cc nL ret (rx_fin D b ca)) (hdg : decode cc pc = .ok (.aastore, 1)) (hi : i < n) (he : F i = .inl (ca t, N, .inr (.inr (.inr (.inr f))))) (ht : (rx_tys (rx_fin D b ca))[t]? = some (ca t, .object r.1)) (hq : qk < n) (hqe : F qk = .inr (ci, vs)) (hc : rx_cl[ci]? = some r) (hin : vp_in j N)
    (kk : rx_X p l e R s m args below meth c (fun q => b ≤ q) H0 cells slots Q nL (rz_m D b n (va_up F i (.inl (ca t, N, .inr (.inr (.inr (.inr (va_up f j.toNatClampNeg (some (b + qk)))))))))) (pc + 1) lo rest) : rx_X p l e R s m args below meth c (fun q => b ≤ q) H0 cells slots Q nL (rz_m D b n F) pc lo (.ref (b + qk) :: .int j :: .ref (b + i) :: rest) := by
  intro H locs ls hP hS hl
  have heq : (rz_w b n F)[i]? = some (b + i, .inl (ca t, N, .inr (.inr (.inr (.inr f))))) := by rw [← he]; exact rz_at hi
  have heqv : (rz_w b n F)[qk]? = some (b + qk, .inr (ci, vs)) := by rw [← hqe]; exact rz_at hq
  have hlt : j.toNatClampNeg < N := Nat.not_le.mp fun q => hin (Or.inr q)
  have h0 : ¬ j < 0 := fun q => hin (Or.inl q)
  obtain ⟨r', hr', cellV, g1, g2, g3, -⟩ := hP.1 qk _ heqv
  have hcls := (C.2.1.1.1 ci r hc).2
  obtain ⟨kA, comp, k1, k2, k3, -⟩ := (C.2.1.1.2 t _ ht).2
  have hcomp : comp = D.1 ci := Option.some.inj (k3.symm.trans hcls.1)
  subst hcomp
  obtain ⟨kC, hkC, -⟩ := hcls.2
  refine W.aast C.1.1 C.1.2.1 (hP.1 i _ heq) (fun q h => by cases h) (fun h => by cases h) k1 k2 rfl hkC ⟨h0, by show _ < (arrV _ _ _).slots.size; rw [arrV_size]; exact hlt⟩ g1 (fun q h => by rw [g3] at h; cases h) (by rw [g2]; exact hkC) (by rw [g2]; exact va_assign hcls) rfl rfl hdg fun H1 e z oq => ?_
  refine kk H1 _ ls ⟨?_, by rw [z]; exact hP.2⟩ (hS.put z oq (rz_D.2 i _ heq)) hl
  rw [← rz_set hi]
  refine hP.1.set (rz_D (b := b) (n := n) (F := F)) heq ?_ oq
  show H1[b + i]? = some (vp_cell _ _)
  rw [e]
  rw [vp_cell_q, vp_cell_q, arrV_store]
  congr 2
  funext q
  by_cases hq : q = j.toNatClampNeg
  · subst hq
    simp [updV, va_up, va_rf]
  · simp [updV, va_up, hq]
theorem rz_after {pc n' mc ms : Nat} {ls : Array Slot} {H : Heap} {locs : List Loc} {a : Array Value} (hr : va_Run p l e R s m args below meth c H locs cells slots mc ms (F0 m pc ls st) rest (rz_Q D b n' F' a) (fun q => b ≤ q)) (hS : va_S (fun q => b ≤ q) H0 H locs)
    (kk : ∀ (H1 : Heap) (locs1 : List Loc), rz_m D b n' F' H1 → va_S (fun q => b ≤ q) H0 H1 locs1 → W p l e R s m args below meth c H1 locs1 (cells + mc) (slots + ms) Q (F0 m (pc + 3) ls rest)) : W p l e R s m args below meth c H locs cells slots Q (F0 m pc ls st) := by
  intro T hT X
  obtain ⟨v, st₀, t, T', L, h0, X', hL, e1, e2, ⟨hv, hP, hz, hk⟩, st'⟩ := hr T hT X
  cases hv
  rw [h0] at hz hk
  obtain ⟨t2, a1, b1⟩ := kk T'.heap (locs ++ L) (by rw [e1]; exact hP) ⟨Nat.le_trans hS.1 (by rw [e1]; exact hz), fun q h1 h2 => by rw [e1, hk q (Nat.lt_of_lt_of_le h1 hS.1) h2]; exact hS.2.1 q h1 h2, fun q hq => by
      rcases List.mem_append.mp hq with h | h
      · exact hS.2.2 q h
      · exact hL q h⟩ T' rfl X'
  exact ⟨t2, st' t2 a1, b1⟩
/-- a maker of a nest mate is called -/
theorem rz_callN {y : MethodName} {host : String} {cb : ByteArray} {nLy idx nA pc n' mc ms d : Nat} {As : List Value} {i : Nat} (C : rx_Cw p s m args meth c own cc nL ret (rx_fin D b ca)) (hcode : Cond.code y cb nLy none ∈ rx_W) (hlink : Cond.methodLinkNest own idx y host ∈ lw_tbl) (hinst : Cond.instanceMethod y ∈ rx_W) (hini : Cond.initialized y.cls ∈ rx_W)
    (hd : y.cls ≠ "java/lang/invoke/MethodHandle" ∧ y.cls ≠ "java/lang/invoke/VarHandle" ∧ (parseMethodDescriptor y.desc).map (fun d => d.parameters.length) = some nA) (hyn : y.name = "<init>") (hdg : decode cc pc = .ok (.invokespecial idx, 3))
    (hM : rz_C l D b ca y cb nLy (rz_rm d mc ms) (.ref (b + i) :: As) n F n' F' mc ms) (hR : d + 1 ≤ R.frames ∧ 8 + (nLy + 11) + 40 * d ≤ R.locals) (hf : cells + mc ≤ R.cells ∧ slots + ms ≤ R.slots) (hn : As.length = nA) (hst : st = As.reverse ++ .ref (b + i) :: rest) (hW : (rest.map fun v => v.category).sum ≤ 8)
    (k : rx_X p l e R s m args below meth c (fun q => b ≤ q) H0 (cells + mc) (slots + ms) Q nL (rz_m D b n' F') (pc + 3) lo rest) : rx_X p l e R s m args below meth c (fun q => b ≤ q) H0 cells slots Q nL (rz_m D b n F) pc lo st := by
  intro H locs ls hP hS hl
  refine rz_after D b (va_runIN (As := As) (rest := rest) (b := b + i) (Ts := rx_W) ⟨C.1.1, C.1.2.1, C.1.2.2.1, C.1.2.2.2.1, C.1.2.2.2.2.1⟩ hM ⟨va_cnB (Ts := rx_W) nA C.1.2.2.2.2.1 (rx_goodIn0 hcode) rfl rfl rfl (C.2.1.2.1 _ hlink rfl) (C.1.2.2.2.2.1 _ hini) hd hR, hyn, C.1.2.2.2.2.1 _ hinst⟩ ⟨rz_blind, rz_pre hP C.2.1⟩ rfl hn hl.size hst (lv_room hW) hdg hf) hS (fun H1 locs1 h1 h2 => k H1 locs1 ls h1 h2 hl)
/-- a public maker is called -/
theorem rz_callI {y : MethodName} {cb : ByteArray} {nLy idx nA pc n' mc ms d : Nat} {As : List Value} {i : Nat} (C : rx_Cw p s m args meth c own cc nL ret (rx_fin D b ca)) (hcode : Cond.code y cb nLy none ∈ rx_W) (hlink : Cond.methodLink own idx y ∈ rx_W) (hinst : Cond.instanceMethod y ∈ rx_W) (hini : Cond.initialized y.cls ∈ rx_W)
    (hd : y.cls ≠ "java/lang/invoke/MethodHandle" ∧ y.cls ≠ "java/lang/invoke/VarHandle" ∧ (parseMethodDescriptor y.desc).map (fun d => d.parameters.length) = some nA) (hyn : y.name = "<init>") (hdg : decode cc pc = .ok (.invokespecial idx, 3))
    (hM : rz_C l D b ca y cb nLy (rz_rm d mc ms) (.ref (b + i) :: As) n F n' F' mc ms) (hR : d + 1 ≤ R.frames ∧ 8 + (nLy + 11) + 40 * d ≤ R.locals) (hf : cells + mc ≤ R.cells ∧ slots + ms ≤ R.slots) (hn : As.length = nA) (hst : st = As.reverse ++ .ref (b + i) :: rest) (hW : (rest.map fun v => v.category).sum ≤ 8)
    (k : rx_X p l e R s m args below meth c (fun q => b ≤ q) H0 (cells + mc) (slots + ms) Q nL (rz_m D b n' F') (pc + 3) lo rest) : rx_X p l e R s m args below meth c (fun q => b ≤ q) H0 cells slots Q nL (rz_m D b n F) pc lo st := by
  intro H locs ls hP hS hl
  refine rz_after D b (va_runI (As := As) (rest := rest) (b := b + i) (Ts := rx_W) ⟨C.1.1, C.1.2.1, C.1.2.2.1, C.1.2.2.2.1, C.1.2.2.2.2.1⟩ hM ⟨callB_of (Ts := rx_W) nA C.1.2.2.2.2.1 (rx_goodIn0 hcode) rfl rfl rfl (C.1.2.2.2.2.1 _ hini) (C.1.2.2.2.2.1 _ hlink) hd hR, hyn, C.1.2.2.2.2.1 _ hinst⟩ ⟨rz_blind, rz_pre hP C.2.1⟩ rfl hn hl.size hst (lv_room hW) hdg hf) hS (fun H1 locs1 h1 h2 => k H1 locs1 ls h1 h2 hl)
end RZA
theorem rz_retE {p : Program} {l : Launch} {e : Env} {R : Room} {s : State} {m : MethodId} {args : Array Value} {below : List Frame} {meth : Method} {c : Code} {cells slots nL n pc : Nat} {F F' : Nat → va_E} {lo : List (Nat × Value)} {own : String} {cc : ByteArray} (D : va_G) (b : Nat) (ca : Nat → ClassId) (C : rx_Cw p s m args meth c own cc nL none (rx_fin D b ca)) (hdg : decode cc pc = .ok (.return_, 1)) (hF : F = F') : rx_X p l e R s m args below meth c (fun q => b ≤ q) s.heap cells slots (MQ below (rz_Q D b n F') args s cells slots (fun q => b ≤ q)) nL (rz_m D b n F) pc lo [] := by
  subst hF
  exact rz_ret D b ca C hdg
