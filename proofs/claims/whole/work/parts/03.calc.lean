/-! the flat memory: a cell a number, its slots Int32s; worlds by an index function -/
abbrev rMem : Type := Nat → Nat → Int32
def rx_wr (σ : rMem) (i k : Nat) (v : Int32) : rMem := fun a => if a = i then upd (σ a) k v else σ a
/-- what a place knows: the classes' numbers, the cells' addresses, the array classes, which addresses are its own, the cells' shapes, how many there are -/
abbrev rGT : Type := va_G × (Nat → Nat) × (Nat → ClassId) × (Nat → Prop) × (Nat → (Nat → Int32) → va_E) × Nat
abbrev rg_D (G : rGT) : va_G := G.1
abbrev rg_A (G : rGT) : Nat → Nat := G.2.1
abbrev rg_C (G : rGT) : Nat → ClassId := G.2.2.1
abbrev rg_O (G : rGT) : Nat → Prop := G.2.2.2.1
abbrev rg_E (G : rGT) : Nat → (Nat → Int32) → va_E := G.2.2.2.2.1
abbrev rg_N (G : rGT) : Nat := G.2.2.2.2.2
def rx_wd (ad : Nat → Nat) (E : Nat → (Nat → Int32) → va_E) (n : Nat) (σ : rMem) : va_W := (List.range n).map (fun i => (ad i, E i (σ i)))
theorem rx_at {ad : Nat → Nat} {E : Nat → (Nat → Int32) → va_E} {n : Nat} {σ : rMem} {i : Nat} (hi : i < n) : (rx_wd ad E n σ)[i]? = some (ad i, E i (σ i)) := by
  simp [rx_wd, hi]
theorem rx_range {n j a : Nat} (h : (List.range n)[j]? = some a) : a = j ∧ j < n := by
  have h1 := (List.getElem?_eq_some_iff.mp h)
  obtain ⟨h2, h3⟩ := h1
  simp at h3 h2
  exact ⟨h3.symm, h2⟩
theorem rx_set {ad : Nat → Nat} {E : Nat → (Nat → Int32) → va_E} {n : Nat} {σ : rMem} {i k : Nat} {v : Int32} {x : va_E} (hi : i < n) (he : x = E i (upd (σ i) k v)) : (rx_wd ad E n σ).set i (ad i, x) = rx_wd ad E n (rx_wr σ i k v) := by
  apply List.ext_getElem?
  intro j
  by_cases hj : j = i
  · subst hj
    rw [List.getElem?_set_self (by simp [rx_wd, hi]), rx_at hi, he]
    simp [rx_wr]
  · rw [List.getElem?_set_ne (Ne.symm hj)]
    simp only [rx_wd, List.getElem?_map]
    cases h : (List.range n)[j]? with
    | none => rfl
    | some a =>
      obtain ⟨h1, -⟩ := rx_range h
      subst h1
      simp [rx_wr, hj]
/-- addresses apart, and the place's own -/
def rx_D (G : rGT) : Prop := (∀ i j : Nat, i < rg_N G → j < rg_N G → rg_A G i = rg_A G j → i = j) ∧ ∀ i : Nat, i < rg_N G → rg_O G (rg_A G i)
def rx_w (G : rGT) (σ : rMem) : va_W := rx_wd (rg_A G) (rg_E G) (rg_N G) σ
theorem rx_D.va {G : rGT} (h : rx_D G) (σ : rMem) : va_D (rg_O G) (rx_w G σ) := by
  have key : ∀ (k : Nat) (q : Nat × va_E), (rx_w G σ)[k]? = some q → k < rg_N G ∧ q.1 = rg_A G k := by
    intro k q hk
    simp only [rx_w, rx_wd, List.getElem?_map] at hk
    cases hr : (List.range (rg_N G))[k]? with
    | none => rw [hr] at hk; cases hk
    | some a =>
      obtain ⟨h1, h2⟩ := rx_range hr
      rw [hr] at hk
      cases hk
      subst h1
      exact ⟨h2, rfl⟩
  refine ⟨fun i j x y hi hj hxy => ?_, fun k q hk => ?_⟩
  · obtain ⟨a1, a2⟩ := key i x hi
    obtain ⟨b1, b2⟩ := key j y hj
    exact h.1 i j a1 b1 (by rw [← a2, ← b2]; exact hxy)
  · obtain ⟨a1, a2⟩ := key k q hk
    rw [a2]
    exact h.2 k a1
/-! locals: the first that names a place holds -/
def rx_lk : List (Nat × Value) → Nat → Option Value
  | [], _ => none
  | q :: t, i => bif Nat.beq q.1 i then some q.2 else rx_lk t i
theorem rx_lk_mem : ∀ {lo : List (Nat × Value)} {i : Nat} {v : Value}, rx_lk lo i = some v → (i, v) ∈ lo
  | [], _, _, h => by cases h
  | q :: t, i, v, h => by
    unfold rx_lk at h
    cases hb : Nat.beq q.1 i with
    | true =>
      rw [hb] at h
      have h1 : q.1 = i := Nat.eq_of_beq_eq_true hb
      have h2 : q.2 = v := Option.some.inj h
      rw [← h1, ← h2]
      exact List.mem_cons_self
    | false =>
      rw [hb] at h
      exact List.mem_cons_of_mem _ (rx_lk_mem h)
def rx_has (ls : Array Slot) (nL : Nat) (lo : List (Nat × Value)) : Prop := ∃ l : List (Nat × Value), lv_has ls nL l ∧ ∀ (j : Nat) (w : Value), rx_lk lo j = some w → (j, w) ∈ l ∧ w.category = 1
theorem rx_has.val {ls : Array Slot} {nL : Nat} {lo : List (Nat × Value)} (h : rx_has ls nL lo) {i : Nat} {v : Value} (hi : rx_lk lo i = some v) : ls[i]? = some (.val v) := by
  obtain ⟨l, h1, h2⟩ := h
  exact h1.2.2 (i, v) (h2 i v hi).1
theorem rx_has.size {ls : Array Slot} {nL : Nat} {lo : List (Nat × Value)} (h : rx_has ls nL lo) : ls.size = nL := by
  obtain ⟨l, h1, h2⟩ := h
  exact h1.1
theorem rx_has.put {ls' : Array Slot} {nL i : Nat} {l lo : List (Nat × Value)} {v : Value} (hc : v.category = 1) (h2 : ∀ (j : Nat) (w : Value), rx_lk lo j = some w → (j, w) ∈ l ∧ w.category = 1)
    (h : lv_has ls' nL ((i, v) :: l.filter (fun q => !(q.1 == i) && !(q.1 + 1 == i && q.2.category == 2)))) : rx_has ls' nL ((i, v) :: lo) := by
  refine ⟨_, h, fun j w hj => ?_⟩
  unfold rx_lk at hj
  cases hb : Nat.beq i j with
  | true =>
    rw [hb] at hj
    have e1 : i = j := Nat.eq_of_beq_eq_true hb
    have e2 : v = w := Option.some.inj hj
    subst e1 e2
    exact ⟨List.mem_cons_self, hc⟩
  | false =>
    rw [hb] at hj
    obtain ⟨h3, h4⟩ := h2 j w hj
    have hne : ¬ j = i := fun q => by
      rw [q, Nat.beq_refl] at hb
      cases hb
    refine ⟨List.mem_cons_of_mem _ (List.mem_filter.mpr ⟨h3, ?_⟩), h4⟩
    simp [hne, h4]
theorem rx_has.weak {ls : Array Slot} {nL : Nat} {lo lo' : List (Nat × Value)} (h : rx_has ls nL lo) (hw : ∀ q ∈ lo', rx_lk lo q.1 = some q.2) : rx_has ls nL lo' := by
  obtain ⟨l, h1, h2⟩ := h
  exact ⟨l, h1, fun j w hj => h2 j w (hw (j, w) (rx_lk_mem hj))⟩
theorem rx_has.entry (vs : List Value) {n : Nat} (h : (lg_sl vs).length ≤ n) (hv : ∀ (j : Nat) (w : Value), rx_lk (lv_args 0 vs) j = some w → w.category = 1) : rx_has ((lg_sl vs ++ List.replicate (n - (lg_sl vs).length) Slot.unset).toArray) n (lv_args 0 vs) :=
  ⟨lv_args 0 vs, lv_entry vs h, fun j w hj => ⟨rx_lk_mem hj, hv j w hj⟩⟩
theorem rx_addI {x y : Int32} (h1 : -2147483648 ≤ x.toInt + y.toInt) (h2 : x.toInt + y.toInt < 2147483648) : (x + y).toInt = x.toInt + y.toInt := by
  rw [Int32.toInt_add]
  exact Int.bmod_eq_of_le_mul_two (by omega) (by omega)
theorem rx_subI {x y : Int32} (h1 : -2147483648 ≤ x.toInt - y.toInt) (h2 : x.toInt - y.toInt < 2147483648) : (x - y).toInt = x.toInt - y.toInt := by
  rw [Int32.toInt_sub]
  exact Int.bmod_eq_of_le_mul_two (by omega) (by omega)
theorem rx_lo (x : Int32) : -2147483648 ≤ x.toInt := by
  have := Int32.le_toInt x
  omega
theorem rx_hi (x : Int32) : x.toInt < 2147483648 := by
  have := Int32.toInt_lt x
  omega
theorem rx_ltI {x y : Int32} : x < y ↔ x.toInt < y.toInt := Int32.lt_iff_toInt_lt
theorem rx_leI {x y : Int32} : x ≤ y ↔ x.toInt ≤ y.toInt := Int32.le_iff_toInt_le
theorem rx_eqI {x y : Int32} : x = y ↔ x.toInt = y.toInt := Int32.toInt_inj.symm
theorem rx_vinI {x : Int32} {n : Nat} (h1 : 0 ≤ x.toInt) (h2 : x.toInt < n) : vp_in x n := vp_in_iff.mpr ⟨h1, h2⟩
theorem rx_I0 : (0 : Int32).toInt = 0 := rfl
theorem rx_I1 : (1 : Int32).toInt = 1 := rfl
theorem rx_I40 : (40 : Int32).toInt = 40 := rfl
def rx_iM (m : Int32) : Prop := 0 ≤ m.toInt ∧ m.toInt ≤ 1
/-- a memory is sound: so much as keeps the machine from throwing -/
def rx_SI (σ : rMem) : Prop := (0 ≤ (σ 1 1).toInt ∧ (σ 1 1).toInt ≤ 40) ∧ (∀ k, k < 41 → 1 ≤ (σ 2 k).toInt ∧ (σ 2 k).toInt ≤ 41) ∧ (0 ≤ (σ 71 4).toInt ∧ (σ 71 4).toInt ≤ 40) ∧ (∀ k, k < 2 → (σ 67 k).toInt ≤ 200 ∧ (σ 68 k).toInt ≤ 200 ∧ (σ 92 k).toInt ≤ 200 ∧ (σ 93 k).toInt ≤ 200)
theorem rx_wr_ne {σ : rMem} {i k a : Nat} {v : Int32} (h : a ≠ i) : rx_wr σ i k v a = σ a := by simp [rx_wr, h]
theorem rx_wr_eq {σ : rMem} {i k : Nat} {v : Int32} : rx_wr σ i k v i k = v := by simp [rx_wr, upd]
theorem rx_wr_sl {σ : rMem} {i k a f : Nat} {v : Int32} (h : f ≠ k) : rx_wr σ i k v a f = σ a f := by
  by_cases ha : a = i
  · subst ha
    simp [rx_wr, upd, h]
  · simp [rx_wr, ha]
theorem rx_wr_at (σ : rMem) (i k a f : Nat) (v : Int32) : rx_wr σ i k v a f = if a = i ∧ f = k then v else σ a f := by
  by_cases ha : a = i
  · subst ha
    by_cases hf : f = k
    · subst hf; simp [rx_wr, upd]
    · simp [rx_wr, upd, hf]
  · simp [rx_wr, ha]
/-- a write of which soundness says nothing -/
theorem rx_SI_wr {σ : rMem} {i k : Nat} {v : Int32} (hi : (i ≠ 2 ∧ i ≠ 67 ∧ i ≠ 68 ∧ i ≠ 92 ∧ i ≠ 93) ∧ (i = 1 → k ≠ 1) ∧ (i = 71 → k ≠ 4)) (h : rx_SI σ) : rx_SI (rx_wr σ i k v) := by
  obtain ⟨h1, h2, h3, h4⟩ := h
  refine ⟨?_, fun k hk => ?_, ?_, fun k hk => ?_⟩
  · rw [rx_wr_at, if_neg (by omega)]; exact h1
  · rw [rx_wr_at, if_neg (by omega)]; exact h2 k hk
  · rw [rx_wr_at, if_neg (by omega)]; exact h3
  · rw [rx_wr_ne (a := 67) (by omega), rx_wr_ne (a := 68) (by omega), rx_wr_ne (a := 92) (by omega), rx_wr_ne (a := 93) (by omega)]; exact h4 k hk
theorem rx_SI_size {σ : rMem} {v : Int32} (hv : 0 ≤ v.toInt ∧ v.toInt ≤ 40) (h : rx_SI σ) : rx_SI (rx_wr σ 1 1 v) := by
  obtain ⟨h1, h2, h3, h4⟩ := h
  refine ⟨?_, fun k hk => ?_, ?_, fun k hk => ?_⟩
  · rw [rx_wr_eq]; exact hv
  · rw [rx_wr_ne (by omega)]; exact h2 k hk
  · rw [rx_wr_ne (by omega)]; exact h3
  · rw [rx_wr_ne (a := 67) (by omega), rx_wr_ne (a := 68) (by omega), rx_wr_ne (a := 92) (by omega), rx_wr_ne (a := 93) (by omega)]; exact h4 k hk
theorem rx_SI_many {σ : rMem} {v : Int32} (hv : 0 ≤ v.toInt ∧ v.toInt ≤ 40) (h : rx_SI σ) : rx_SI (rx_wr σ 71 4 v) := by
  obtain ⟨h1, h2, h3, h4⟩ := h
  refine ⟨?_, fun k hk => ?_, ?_, fun k hk => ?_⟩
  · rw [rx_wr_ne (by omega)]; exact h1
  · rw [rx_wr_ne (by omega)]; exact h2 k hk
  · rw [rx_wr_eq]; exact hv
  · rw [rx_wr_ne (a := 67) (by omega), rx_wr_ne (a := 68) (by omega), rx_wr_ne (a := 92) (by omega), rx_wr_ne (a := 93) (by omega)]; exact h4 k hk
theorem rx_SI_row {σ : rMem} {j : Nat} {v : Int32} (hv : 1 ≤ v.toInt ∧ v.toInt ≤ 41) (h : rx_SI σ) : rx_SI (rx_wr σ 2 j v) := by
  obtain ⟨h1, h2, h3, h4⟩ := h
  refine ⟨?_, fun k hk => ?_, ?_, fun k hk => ?_⟩
  · rw [rx_wr_ne (by omega)]; exact h1
  · rw [rx_wr_at]
    split
    · exact hv
    · exact h2 k hk
  · rw [rx_wr_ne (by omega)]; exact h3
  · rw [rx_wr_ne (a := 67) (by omega), rx_wr_ne (a := 68) (by omega), rx_wr_ne (a := 92) (by omega), rx_wr_ne (a := 93) (by omega)]; exact h4 k hk
theorem rx_SI_cnt {σ : rMem} {i j : Nat} {v : Int32} (hi : i = 67 ∨ i = 68 ∨ i = 92 ∨ i = 93) (hv : v.toInt ≤ 200) (h : rx_SI σ) : rx_SI (rx_wr σ i j v) := by
  obtain ⟨h1, h2, h3, h4⟩ := h
  refine ⟨?_, fun k hk => ?_, ?_, fun k hk => ?_⟩
  · rw [rx_wr_ne (by omega)]; exact h1
  · rw [rx_wr_ne (by omega)]; exact h2 k hk
  · rw [rx_wr_ne (by omega)]; exact h3
  · have h5 := h4 k hk
    have key : ∀ c, (σ c k).toInt ≤ 200 → (rx_wr σ i j v c k).toInt ≤ 200 := by
      intro c hc
      rw [rx_wr_at]
      split
      · exact hv
      · exact hc
    exact ⟨key 67 h5.1, key 68 h5.2.1, key 92 h5.2.2.1, key 93 h5.2.2.2⟩
theorem rx_in2 {x : Int32} (h : rx_iM x) : vp_in x 2 := vp_in_iff.mpr ⟨h.1, by have := h.2; omega⟩
theorem rx_cn {x : Int32} (h : 0 ≤ x.toInt) : (x.toNatClampNeg : Int) = x.toInt := Int.toNat_of_nonneg h
theorem rx_j2 {x : Int32} (h : rx_iM x) : x.toNatClampNeg < 2 := by
  have h1 := rx_cn h.1
  have h2 := h.2
  omega
theorem rx_rowq {σ : rMem} (h : rx_SI σ) {k : Nat} (hk : k < 41) : 3 ≤ 2 + (σ 2 k).toNatClampNeg ∧ 2 + (σ 2 k).toNatClampNeg < 45 := by
  have h1 := h.2.1 k hk
  have h2 := rx_cn (x := σ 2 k) (by omega)
  omega
def rx_tys (G : rGT) : List (ClassId × FieldType) := [(rg_C G 0, .int), (rg_C G 1, .object R_Msg), (rg_C G 2, .object R_Mob), (rg_C G 3, .object R_Fa)]
/-! the words of the tables, by their kinds -/
def rx_W : List Cond := lw_tbl.filter goodWord
theorem rx_in {w : Cond} (h : w ∈ lw_tbl) (hg : goodWord w = true) : w ∈ rx_W := List.mem_filter.mpr ⟨h, hg⟩
theorem rx_good : ∀ w ∈ rx_W, (w.onTables && w.keeps) = true ∨ ∃ ty, w = .arrayClass ty := fun w h => good_of_word (List.mem_filter.mp h).2
theorem rx_goodIn {x y : Cond} (hy : y ∈ rx_W) : GoodIn (x :: rx_W) (y :: rx_W) := by
  intro w hw
  rcases List.mem_cons.mp hw with rfl | hw
  · exact ⟨List.mem_cons_of_mem _ hy, rx_good _ hy⟩
  · exact ⟨List.mem_cons_of_mem _ hw, rx_good _ hw⟩
theorem rx_goodIn0 {y : Cond} (hy : y ∈ rx_W) : GoodIn rx_W (y :: rx_W) := by
  intro w hw
  rcases List.mem_cons.mp hw with rfl | hw
  · exact ⟨hy, rx_good _ hy⟩
  · exact ⟨hw, rx_good _ hw⟩
def rx_nest : Cond → Bool
  | .fieldLinkNest .. => true
  | .methodLinkNest .. => true
  | _ => false
theorem rx_nest_tab {w : Cond} (h : rx_nest w = true) : w.onTables = true := by
  cases w <;> first | rfl | (simp [rx_nest] at h; done)
theorem rx_nest_warm {w : Cond} (h : rx_nest w = true) {s U : State} (hW : s.WarmedH U.vm) (hZ : va_Nw w s) : va_Nw w U := by
  cases w <;> first | exact va_Nw.warmF hW hZ | exact va_Nw.warmM hW hZ | (simp [rx_nest] at h; done)
def rx_K (G : rGT) (U : State) : Prop := va_K (rg_D G) rx_cl (rx_tys G) U ∧ (∀ w ∈ lw_tbl, rx_nest w = true → va_Nw w U) ∧ ∀ Cn : String, Cond.arrayOver (.object Cn) ∈ lw_tbl → va_AO Cn U
theorem rx_K.warm {G : rGT} {s U : State} (hW : s.WarmedH U.vm) (h : rx_K G s) : rx_K G U := ⟨va_K.moved hW.alike h.1, fun w hw hn => rx_nest_warm hn hW (h.2.1 w hw hn), fun Cn hc => va_AO.moved hW.alike (h.2.2 Cn hc)⟩
theorem rx_K.same {G : rGT} {s U : State} (hv : s.vm = U.vm) (h : rx_K G s) : rx_K G U := ⟨va_K.moved (by rw [hv]; exact Vm.Alike.refl U.vm) h.1, fun w hw hn => va_Nw.same (rx_nest_tab hn) hv (h.2.1 w hw hn), fun Cn hc => va_AO.moved (by rw [hv]; exact Vm.Alike.refl U.vm) (h.2.2 Cn hc)⟩
/-- the heap holds the memory, and the memory is sound -/
def rx_m (G : rGT) (σ : rMem) (H : Heap) : Prop := va_P (rg_D G) rx_cl (rx_w G σ) H ∧ rx_SI σ
/-- a contract's end: the answer, the memory behind it; nothing changed but the place's own cells -/
def rx_Q (G : rGT) (rv : Option Value) (σ : rMem) : Array Value → State → Outcome → State → Prop := fun _ st oc t => oc = .returned rv ∧ rx_m G σ t.heap ∧ va_F (rg_O G) st t
def rx_P (G : rGT) (av : List Value) (σ : rMem) : Array Value → State → Prop := va_Pc av (fun U => rx_m G σ U.heap ∧ rx_K G U)
/-- a method's contract over the flat memory -/
def rx_C (l : Launch) (G : rGT) (y : MethodName) (b : ByteArray) (nL : Nat) (ret : Option FieldType) (rm : Room) (av : List Value) (σ : rMem) (rv : Option Value) (σ' : rMem) : Prop :=
  Met l y (.code y b nL ret :: rx_W) rm (rx_P G av σ) (rx_Q G rv σ') 0 0 (rg_O G)
/-- a method that touches no cell -/
def rx_QS (v : Value) : Array Value → State → Outcome → State → Prop := fun _ st oc t => oc = .returned (some v) ∧ t.heap = st.heap
def rx_S (l : Launch) (y : MethodName) (b : ByteArray) (nL : Nat) (ret : Option FieldType) (rm : Room) (av : List Value) (v : Value) : Prop :=
  Met l y (.code y b nL ret :: rx_W) rm (fun a _ => a = av.toArray) (rx_QS v) 0 0 (fun _ => False)
def rx_rm (d : Nat) : Room := { frames := d, cells := 0, slots := 0, locals := 40 * d }
/-- what stands through a method's walk -/
def rx_Cx (p : Program) (s : State) (m : MethodId) (args : Array Value) (meth : Method) (c : Code) (own : String) (cc : ByteArray) (nL : Nat) (ret : Option FieldType) : Prop :=
  p.tables.exec = Jvm.exec ∧ c.code = cc ∧ c.maxLocals = nL ∧ s.vm.findClass own = some m.cls ∧ (∀ w ∈ rx_W, w.before args s = true) ∧ meth.locks = false ∧ meth.sig.returnType = ret
/-- the same, where the flat memory stands -/
def rx_Cw (p : Program) (s : State) (m : MethodId) (args : Array Value) (meth : Method) (c : Code) (own : String) (cc : ByteArray) (nL : Nat) (ret : Option FieldType) (G : rGT) : Prop :=
  rx_Cx p s m args meth c own cc nL ret ∧ rx_K G s ∧ rx_D G
/-- the machine at a place of the code, over the flat memory -/
def rx_X (p : Program) (l : Launch) (e : Env) (R : Room) (s : State) (m : MethodId) (args : Array Value) (below : List Frame) (meth : Method) (c : Code) (O : Nat → Prop) (H0 : Heap) (cells slots : Nat) (Q : State → Prop) (nL : Nat) (Φ : Heap → Prop) (pc : Nat) (lo : List (Nat × Value)) (st : List Value) : Prop :=
  ∀ (H : Heap) (locs : List Loc) (ls : Array Slot), Φ H → va_S O H0 H locs → rx_has ls nL lo → W p l e R s m args below meth c H locs cells slots Q (F0 m pc ls st)
theorem rx_blind {G : rGT} {av : List Value} {σ : rMem} : FrameBlind (rx_P G av σ) := fun a U g mk q => by
  obtain ⟨q0, qP, qK⟩ := q
  exact ⟨q0, qP, rx_K.same (s := U) (U := U.calling g mk a) (show U.vm = (U.calling g mk a).vm from rfl) qK⟩
theorem rx_pre {G : rGT} {av : List Value} {σ : rMem} {s : State} {H : Heap} (hP : rx_m G σ H) (hK : rx_K G s) : ∀ U : State, U.heap = H → s.WarmedH U.vm → rx_P G av σ av.toArray U := fun U hU hW => ⟨rfl, by rw [hU]; exact hP, hK.warm hW⟩
section RXA
variable {p : Program} {l : Launch} {e : Env} {R : Room} {s : State} {m : MethodId} {args : Array Value} {below : List Frame} {meth : Method} {c : Code} {G : rGT} {H0 : Heap} {cells slots : Nat} {Q : State → Prop} {nL : Nat} {σ σ' : rMem} {lo : List (Nat × Value)} {rest st : List Value} {own : String} {cc : ByteArray} {ret : Option FieldType}
/-- a contract out of a walk -/
theorem rx_of {y : MethodName} {rm : Room} {av : List Value} {rv : Option Value} (hy : plainName y.cls = true) (hD : rx_D G) (hlo : lv_args 0 av = lo) (hl : (lg_sl av).length ≤ nL) (hv : lo.all (fun q => q.2.category == 1) = true)
    (h : ∀ (p : Program) (e : Env) (s : State) (m : MethodId) (below : List Frame) (meth : Method) (c : Code), rx_Cw p s m av.toArray meth c y.cls cc nL ret G → rx_X p l e rm s m av.toArray below meth c (rg_O G) s.heap 0 0 (MQ below (rx_Q G rv σ') av.toArray s 0 0 (rg_O G)) nL (rx_m G σ) 0 lo []) : rx_C l G y cc nL ret rm av σ rv σ' := by
  refine Met.ofW (cc := cc) (maxL := nL) (ret := ret) hy rfl ?_
  intro p e s m args below meth c s₁ B hml hvv
  obtain ⟨rfl, hP, hK⟩ := hvv
  have hts := atoms_spec (ws := .code y cc nL ret :: rx_W) B.pre
  rw [lg_entry_eq]
  refine h p e s m below meth c ⟨⟨B.exec, B.bytes, hml, findClass_of_methodNamed B.named, fun w hw => hts w (List.mem_cons_of_mem _ hw), B.notSynchronized, B.returns⟩, hK, hD⟩ s.heap [] _ hP va_S.rf ?_
  subst hlo
  refine rx_has.entry av hl (fun j w hj => ?_)
  have h1 := List.all_eq_true.mp hv _ (rx_lk_mem hj)
  simpa using h1
/-- the same of a method that touches no cell: its walk holds over any heap -/
theorem rx_ofS {y : MethodName} {rm : Room} {av : List Value} {v : Value} (hy : plainName y.cls = true) (hlo : lv_args 0 av = lo) (hl : (lg_sl av).length ≤ nL) (hv : lo.all (fun q => q.2.category == 1) = true)
    (h : ∀ (p : Program) (e : Env) (s : State) (m : MethodId) (below : List Frame) (meth : Method) (c : Code), rx_Cx p s m av.toArray meth c y.cls cc nL ret → rx_X p l e rm s m av.toArray below meth c (fun _ => False) s.heap 0 0 (MQ below (rx_QS v) av.toArray s 0 0 (fun _ => False)) nL (fun H => H = s.heap) 0 lo []) : rx_S l y cc nL ret rm av v := by
  refine Met.ofW (cc := cc) (maxL := nL) (ret := ret) hy rfl ?_
  intro p e s m args below meth c s₁ B hml hvv
  subst hvv
  have hts := atoms_spec (ws := .code y cc nL ret :: rx_W) B.pre
  rw [lg_entry_eq]
  refine h p e s m below meth c ⟨B.exec, B.bytes, hml, findClass_of_methodNamed B.named, fun w hw => hts w (List.mem_cons_of_mem _ hw), B.notSynchronized, B.returns⟩ s.heap [] _ rfl va_S.rf ?_
  subst hlo
  refine rx_has.entry av hl (fun j w hj => ?_)
  have h1 := List.all_eq_true.mp hv _ (rx_lk_mem hj)
  simpa using h1
theorem rx_iretS {pc : Nat} {v : Int32} {w : Value} (C : rx_Cx p s m args meth c own cc nL (some .int)) (hdg : decode cc pc = .ok (.ireturn, 1)) (hv : .int v = w) : rx_X p l e R s m args below meth c (fun _ => False) s.heap cells slots (MQ below (rx_QS w) args s cells slots (fun _ => False)) nL (fun H => H = s.heap) pc lo [.int v] := by
  intro H locs ls hP hS hl
  subst hv
  exact W.iret C.1 C.2.1 C.2.2.2.2.2.2 (fun t ht hW => ⟨rfl, by rw [ht, hP]⟩) hS.2.2 hdg C.2.2.2.2.2.1
theorem rx_zretS {pc : Nat} {v : Int32} {w : Value} (C : rx_Cx p s m args meth c own cc nL (some .boolean)) (hdg : decode cc pc = .ok (.ireturn, 1)) (hn : v = 0 ∨ v = 1) (hv : .int v = w) : rx_X p l e R s m args below meth c (fun _ => False) s.heap cells slots (MQ below (rx_QS w) args s cells slots (fun _ => False)) nL (fun H => H = s.heap) pc lo [.int v] := by
  intro H locs ls hP hS hl
  subst hv
  exact W.zret C.1 C.2.1 C.2.2.2.2.2.2 (by rcases hn with rfl | rfl <;> rfl) (fun t ht hW => ⟨rfl, by rw [ht, hP]⟩) hS.2.2 hdg C.2.2.2.2.2.1
/-- behind a call -/
theorem rx_after {pc : Nat} {ls : Array Slot} {H : Heap} {locs : List Loc} {rv : Option Value} {a : Array Value} (hr : va_Run p l e R s m args below meth c H locs cells slots 0 0 (F0 m pc ls st) rest (rx_Q G rv σ' a) (rg_O G)) (hS : va_S (rg_O G) H0 H locs)
    (kk : ∀ (H1 : Heap) (locs1 : List Loc), rx_m G σ' H1 → va_S (rg_O G) H0 H1 locs1 → W p l e R s m args below meth c H1 locs1 cells slots Q (F0 m (pc + 3) ls (rv.toList ++ rest))) : W p l e R s m args below meth c H locs cells slots Q (F0 m pc ls st) := by
  intro T hT X
  obtain ⟨v, st₀, t, T', L, h0, X', hL, e1, e2, ⟨hv, hP, hz, hk⟩, st'⟩ := hr T hT X
  cases hv
  rw [h0] at hz hk
  obtain ⟨t2, a1, b1⟩ := kk T'.heap (locs ++ L) (by rw [e1]; exact hP) ⟨Nat.le_trans hS.1 (by rw [e1]; exact hz), fun q h1 h2 => by rw [e1, hk q (Nat.lt_of_lt_of_le h1 hS.1) h2]; exact hS.2.1 q h1 h2, fun q hq => by
      rcases List.mem_append.mp hq with h | h
      · exact hS.2.2 q h
      · exact hL q h⟩ T' rfl X'
  exact ⟨t2, st' t2 a1, b1⟩
theorem rx_afterS {pc : Nat} {ls : Array Slot} {H : Heap} {locs : List Loc} {v : Value} {a : Array Value} (hr : va_Run p l e R s m args below meth c H locs cells slots 0 0 (F0 m pc ls st) rest (rx_QS v a) (fun _ => False))
    (kk : W p l e R s m args below meth c H locs cells slots Q (F0 m (pc + 3) ls (v :: rest))) : W p l e R s m args below meth c H locs cells slots Q (F0 m pc ls st) := by
  intro T hT X
  obtain ⟨w, st₀, t, T', L, h0, X', hL, e1, e2, ⟨hv, hh⟩, st'⟩ := hr T hT X
  cases hv
  obtain ⟨t2, a1, b1⟩ := kk T' (by rw [e1, hh, h0]) (Stand.forget X' (fun q h => (hL q h).elim))
  exact ⟨t2, st' t2 a1, b1⟩
/-- the words for a call of an instance method of the own class, or of a nest mate -/
theorem rx_cwV {y : MethodName} {b : ByteArray} {nLy idx n : Nat} {rety : Option FieldType} {rm : Room} (C : rx_Cx p s m args meth c own cc nL ret) (hcode : Cond.code y b nLy rety ∈ rx_W) (hlink : Cond.methodLink own idx y ∈ rx_W) (hinst : Cond.instanceMethod y ∈ rx_W) (hsel : Cond.selects y.cls y y ∈ rx_W) (hini : Cond.initialized y.cls ∈ rx_W)
    (hd : y.cls ≠ "java/lang/invoke/MethodHandle" ∧ y.cls ≠ "java/lang/invoke/VarHandle" ∧ (parseMethodDescriptor y.desc).map (fun d => d.parameters.length) = some n) (hrm : rm.cells = 0 ∧ rm.slots = 0) (hR : rm.frames + 1 ≤ R.frames ∧ 8 + (nLy + 11) + rm.locals ≤ R.locals) : CallW R s args own y.cls idx y b nLy rety (.code y b nLy rety :: rx_W) rm 0 0 n :=
  ⟨callB_of (Ts := rx_W) n C.2.2.2.2.1 (rx_goodIn0 hcode) rfl hrm.1 hrm.2 (C.2.2.2.2.1 _ hini) (C.2.2.2.2.1 _ hlink) hd hR, C.2.2.2.2.1 _ hinst, C.2.2.2.2.1 _ hsel⟩
theorem rx_callV {y : MethodName} {b : ByteArray} {nLy idx n pc : Nat} {rety : Option FieldType} {rm : Room} {As : List Value} {i ci : Nat} {rv : Option Value} {fs : List Value} {T : u_T} {N : Nat} (C : rx_Cw p s m args meth c own cc nL ret G) (hcode : Cond.code y b nLy rety ∈ rx_W) (hlink : Cond.methodLink own idx y ∈ rx_W) (hinst : Cond.instanceMethod y ∈ rx_W) (hsel : Cond.selects y.cls y y ∈ rx_W) (hini : Cond.initialized y.cls ∈ rx_W)
    (hd : y.cls ≠ "java/lang/invoke/MethodHandle" ∧ y.cls ≠ "java/lang/invoke/VarHandle" ∧ (parseMethodDescriptor y.desc).map (fun d => d.parameters.length) = some n) (hc : rx_cl[ci]? = some (y.cls, T, N)) (hdg : decode cc pc = .ok (.invokevirtual idx, 3))
    (hi : i < rg_N G) (he : rg_E G i (σ i) = .inr (ci, fs)) (hM : rx_C l G y b nLy rety rm (.ref (rg_A G i) :: As) σ rv σ') (hrm : rm.cells = 0 ∧ rm.slots = 0) (hR : rm.frames + 1 ≤ R.frames ∧ 8 + (nLy + 11) + rm.locals ≤ R.locals) (hf : cells ≤ R.cells ∧ slots ≤ R.slots) (hn : As.length = n) (hst : st = As.reverse ++ .ref (rg_A G i) :: rest) (hW : (rest.map fun v => v.category).sum ≤ 8)
    (k : rx_X p l e R s m args below meth c (rg_O G) H0 cells slots Q nL (rx_m G σ') (pc + 3) lo (rv.toList ++ rest)) : rx_X p l e R s m args below meth c (rg_O G) H0 cells slots Q nL (rx_m G σ) pc lo st := by
  intro H locs ls hP hS hl
  have hrec := va_recv C.2.1.1 hP.1 (q0 := i) hc (a := rg_A G i) (fs := fs) (by rw [← he]; exact rx_at hi)
  refine rx_after (va_runV (As := As) (rest := rest) (b := rg_A G i) (Ts := rx_W) ⟨C.1.1, C.1.2.1, C.1.2.2.1, C.1.2.2.2.1, C.1.2.2.2.2.1⟩ hM (rx_cwV C.1 hcode hlink hinst hsel hini hd hrm hR) ⟨rx_blind, hrec, rx_pre hP C.2.1⟩ rfl hn hl.size hst (lv_room hW) hdg hf) hS (fun H1 locs1 h1 h2 => k H1 locs1 ls h1 h2 hl)
theorem rx_callVN {y : MethodName} {host : String} {b : ByteArray} {nLy idx n pc : Nat} {rety : Option FieldType} {rm : Room} {As : List Value} {i ci : Nat} {rv : Option Value} {fs : List Value} {T : u_T} {N : Nat} (C : rx_Cw p s m args meth c own cc nL ret G) (hcode : Cond.code y b nLy rety ∈ rx_W) (hlink : Cond.methodLinkNest own idx y host ∈ lw_tbl) (hinst : Cond.instanceMethod y ∈ rx_W) (hsel : Cond.selects y.cls y y ∈ rx_W) (hini : Cond.initialized y.cls ∈ rx_W)
    (hd : y.cls ≠ "java/lang/invoke/MethodHandle" ∧ y.cls ≠ "java/lang/invoke/VarHandle" ∧ (parseMethodDescriptor y.desc).map (fun d => d.parameters.length) = some n) (hc : rx_cl[ci]? = some (y.cls, T, N)) (hdg : decode cc pc = .ok (.invokevirtual idx, 3))
    (hi : i < rg_N G) (he : rg_E G i (σ i) = .inr (ci, fs)) (hM : rx_C l G y b nLy rety rm (.ref (rg_A G i) :: As) σ rv σ') (hrm : rm.cells = 0 ∧ rm.slots = 0) (hR : rm.frames + 1 ≤ R.frames ∧ 8 + (nLy + 11) + rm.locals ≤ R.locals) (hf : cells ≤ R.cells ∧ slots ≤ R.slots) (hn : As.length = n) (hst : st = As.reverse ++ .ref (rg_A G i) :: rest) (hW : (rest.map fun v => v.category).sum ≤ 8)
    (k : rx_X p l e R s m args below meth c (rg_O G) H0 cells slots Q nL (rx_m G σ') (pc + 3) lo (rv.toList ++ rest)) : rx_X p l e R s m args below meth c (rg_O G) H0 cells slots Q nL (rx_m G σ) pc lo st := by
  intro H locs ls hP hS hl
  have hrec := va_recv C.2.1.1 hP.1 (q0 := i) hc (a := rg_A G i) (fs := fs) (by rw [← he]; exact rx_at hi)
  refine rx_after (va_runVN (As := As) (rest := rest) (b := rg_A G i) (Ts := rx_W) (C := y.cls) ⟨C.1.1, C.1.2.1, C.1.2.2.1, C.1.2.2.2.1, C.1.2.2.2.2.1⟩ hM ⟨va_cnB (Ts := rx_W) n C.1.2.2.2.2.1 (rx_goodIn0 hcode) rfl hrm.1 hrm.2 (C.2.1.2.1 _ hlink rfl) (C.1.2.2.2.2.1 _ hini) hd hR, C.1.2.2.2.2.1 _ hinst, C.1.2.2.2.2.1 _ hsel⟩ ⟨rx_blind, hrec, rx_pre hP C.2.1⟩ rfl hn hl.size hst (lv_room hW) hdg hf) hS (fun H1 locs1 h1 h2 => k H1 locs1 ls h1 h2 hl)
theorem rx_cwS {y : MethodName} {b : ByteArray} {nLy idx n : Nat} {rety : Option FieldType} {rm : Room} (C : rx_Cx p s m args meth c own cc nL ret) (hcode : Cond.code y b nLy rety ∈ rx_W) (hlink : Cond.methodLink own idx y ∈ rx_W) (hstat : Cond.static y ∈ rx_W) (hini : Cond.initialized y.cls ∈ rx_W)
    (hd : y.cls ≠ "java/lang/invoke/MethodHandle" ∧ y.cls ≠ "java/lang/invoke/VarHandle" ∧ (parseMethodDescriptor y.desc).map (fun d => d.parameters.length) = some n) (hrm : rm.cells = 0 ∧ rm.slots = 0) (hR : rm.frames + 1 ≤ R.frames ∧ 8 + (nLy + 11) + rm.locals ≤ R.locals) : CallB R s args own idx y b nLy rety (.code y b nLy rety :: rx_W) rm 0 0 n ∧ (Cond.static y).before args s = true :=
  ⟨callB_of (Ts := rx_W) n C.2.2.2.2.1 (rx_goodIn0 hcode) rfl hrm.1 hrm.2 (C.2.2.2.2.1 _ hini) (C.2.2.2.2.1 _ hlink) hd hR, C.2.2.2.2.1 _ hstat⟩
/-- a static method of the own class that touches no cell, called where any heap stands -/
theorem rx_callS {O : Nat → Prop} {Φ : Heap → Prop} {y : MethodName} {b : ByteArray} {nLy idx n pc : Nat} {rety : Option FieldType} {rm : Room} {As : List Value} {v : Value} (C : rx_Cx p s m args meth c own cc nL ret) (hcode : Cond.code y b nLy rety ∈ rx_W) (hlink : Cond.methodLink own idx y ∈ rx_W) (hstat : Cond.static y ∈ rx_W) (hini : Cond.initialized y.cls ∈ rx_W)
    (hd : y.cls ≠ "java/lang/invoke/MethodHandle" ∧ y.cls ≠ "java/lang/invoke/VarHandle" ∧ (parseMethodDescriptor y.desc).map (fun d => d.parameters.length) = some n) (hdg : decode cc pc = .ok (.invokestatic idx, 3))
    (hM : rx_S l y b nLy rety rm As v) (hrm : rm.cells = 0 ∧ rm.slots = 0) (hR : rm.frames + 1 ≤ R.frames ∧ 8 + (nLy + 11) + rm.locals ≤ R.locals) (hf : cells ≤ R.cells ∧ slots ≤ R.slots) (hn : As.length = n) (hst : st = As.reverse ++ rest) (hW : (rest.map fun v => v.category).sum ≤ 8)
    (k : rx_X p l e R s m args below meth c O H0 cells slots Q nL Φ (pc + 3) lo (v :: rest)) : rx_X p l e R s m args below meth c O H0 cells slots Q nL Φ pc lo st :=
  fun H locs ls hP hS hl => rx_afterS (va_runS (As := As) (rest := rest) (Ts := rx_W) ⟨C.1, C.2.1, C.2.2.1, C.2.2.2.1, C.2.2.2.2.1⟩ hM (rx_cwS C hcode hlink hstat hini hd hrm hR) preEq rfl hn hl.size hst (lv_room hW) hdg hf) (k H locs ls hP hS hl)
/-- ends -/
theorem rx_iret {pc : Nat} {v : Int32} {rv : Option Value} (C : rx_Cw p s m args meth c own cc nL (some .int) G) (hdg : decode cc pc = .ok (.ireturn, 1)) (hv : some (.int v) = rv) (hσ : σ = σ') : rx_X p l e R s m args below meth c (rg_O G) s.heap cells slots (MQ below (rx_Q G rv σ') args s cells slots (rg_O G)) nL (rx_m G σ) pc lo [.int v] := by
  intro H locs ls hP hS hl
  subst hv hσ
  exact W.iret C.1.1 C.1.2.1 C.1.2.2.2.2.2.2 (fun t ht hW => ⟨rfl, by rw [ht]; exact hP, hS.F ht⟩) hS.2.2 hdg C.1.2.2.2.2.2.1
theorem rx_zret {pc : Nat} {v : Int32} {rv : Option Value} (C : rx_Cw p s m args meth c own cc nL (some .boolean) G) (hdg : decode cc pc = .ok (.ireturn, 1)) (hn : v = 0 ∨ v = 1) (hv : some (.int v) = rv) (hσ : σ = σ') : rx_X p l e R s m args below meth c (rg_O G) s.heap cells slots (MQ below (rx_Q G rv σ') args s cells slots (rg_O G)) nL (rx_m G σ) pc lo [.int v] := by
  intro H locs ls hP hS hl
  subst hv hσ
  exact W.zret C.1.1 C.1.2.1 C.1.2.2.2.2.2.2 (by rcases hn with rfl | rfl <;> rfl) (fun t ht hW => ⟨rfl, by rw [ht]; exact hP, hS.F ht⟩) hS.2.2 hdg C.1.2.2.2.2.2.1
theorem rx_vret {pc : Nat} (C : rx_Cw p s m args meth c own cc nL none G) (hdg : decode cc pc = .ok (.return_, 1)) (hσ : σ = σ') : rx_X p l e R s m args below meth c (rg_O G) s.heap cells slots (MQ below (rx_Q G none σ') args s cells slots (rg_O G)) nL (rx_m G σ) pc lo [] := by
  intro H locs ls hP hS hl
  subst hσ
  exact W.vret C.1.1 C.1.2.1 C.1.2.2.2.2.2.2 (fun t ht hW => ⟨rfl, by rw [ht]; exact hP, hS.F ht⟩) hS.2.2 hdg C.1.2.2.2.2.2.1
theorem rx_aret {pc a : Nat} {cn : String} {rv : Option Value} (C : rx_Cw p s m args meth c own cc nL (some (.object cn)) G) (hdg : decode cc pc = .ok (.areturn, 1)) (hv : some (.ref a) = rv) (hσ : σ = σ') : rx_X p l e R s m args below meth c (rg_O G) s.heap cells slots (MQ below (rx_Q G rv σ') args s cells slots (rg_O G)) nL (rx_m G σ) pc lo [.ref a] := by
  intro H locs ls hP hS hl
  subst hv hσ
  exact W.aret C.1.1 C.1.2.1 C.1.2.2.2.2.2.2 (Or.inl ⟨_, rfl⟩) (Or.inr ⟨_, rfl⟩) (fun t ht hW => ⟨rfl, by rw [ht]; exact hP, hS.F ht⟩) hS.2.2 hdg C.1.2.2.2.2.2.1
/-- fields -/
theorem rx_get {pc i ci k N idx : Nat} {Cn : String} {T : u_T} {fs : List Value} {v : Value} (C : rx_Cw p s m args meth c own cc nL ret G) (hin : ∀ w ∈ u_ws Cn T N, w ∈ rx_W) (hc : rx_cl[ci]? = some (Cn, T, N)) (hk : k < N) (hlink : Cond.fieldLink own idx (T k).1 (T k).2.1 (T k).2.2.1 ∈ rx_W) (hdg : decode cc pc = .ok (.getfield idx, 3)) (hi : i < rg_N G) (he : rg_E G i (σ i) = .inr (ci, fs)) (hv : fs[k]? = some v)
    (kk : rx_X p l e R s m args below meth c (rg_O G) H0 cells slots Q nL (rx_m G σ) (pc + 3) lo (v :: rest)) : rx_X p l e R s m args below meth c (rg_O G) H0 cells slots Q nL (rx_m G σ) pc lo (.ref (rg_A G i) :: rest) :=
  fun H locs ls hP hS hl => va_get (D := rg_D G) (ref := (T k).1) C.1.1 C.1.2.1 C.1.2.2.2.2.1 hin C.1.2.2.2.1 C.2.1.1 hP.1 i (by rw [← he]; exact rx_at hi) hc k hk (C.1.2.2.2.2.1 _ hlink) (fun _ h9 => h9) hv hdg (kk H locs ls hP hS hl)
theorem rx_getN {pc i ci k N idx : Nat} {Cn host : String} {T : u_T} {fs : List Value} {v : Value} (C : rx_Cw p s m args meth c own cc nL ret G) (hin : ∀ w ∈ u_ws Cn T N, w ∈ rx_W) (hc : rx_cl[ci]? = some (Cn, T, N)) (hk : k < N) (hlink : Cond.fieldLinkNest own idx (T k).1 (T k).2.1 (T k).2.2.1 host ∈ lw_tbl) (hdg : decode cc pc = .ok (.getfield idx, 3)) (hi : i < rg_N G) (he : rg_E G i (σ i) = .inr (ci, fs)) (hv : fs[k]? = some v)
    (kk : rx_X p l e R s m args below meth c (rg_O G) H0 cells slots Q nL (rx_m G σ) (pc + 3) lo (v :: rest)) : rx_X p l e R s m args below meth c (rg_O G) H0 cells slots Q nL (rx_m G σ) pc lo (.ref (rg_A G i) :: rest) :=
  fun H locs ls hP hS hl => va_getN (D := rg_D G) (ref := (T k).1) C.1.1 C.1.2.1 C.1.2.2.2.2.1 hin C.1.2.2.2.1 C.2.1.1 hP.1 i (by rw [← he]; exact rx_at hi) hc k hk (va_Nw.use rfl (C.2.1.2.1 _ hlink rfl)) (fun _ h9 => h9) hv hdg (kk H locs ls hP hS hl)
theorem rx_put {pc i ci k N idx : Nat} {Cn : String} {T : u_T} {fs : List Value} {x : Int32} {ty0 : Nat → FieldType} (C : rx_Cw p s m args meth c own cc nL ret G) (hin : ∀ w ∈ u_ws Cn T N, w ∈ rx_W) (hty : ∀ k, k < N → parseFieldDescriptor (T k).2.2.1 = some (ty0 k)) (hnm : ∀ a, a < N → ∀ b, b < N → a ≠ b → (T a).2.1 ≠ (T b).2.1) (hc : rx_cl[ci]? = some (Cn, T, N)) (hk : k < N) (hlink : Cond.fieldLink own idx (T k).1 (T k).2.1 (T k).2.2.1 ∈ rx_W) (hfin : (T k).2.2.2 = false) (hd : parseFieldDescriptor (T k).2.2.1 = some .int) (hdg : decode cc pc = .ok (.putfield idx, 3)) (hi : i < rg_N G) (he : rg_E G i (σ i) = .inr (ci, fs)) (hl0 : k < fs.length) (he2 : .inr (ci, fs.set k (.int x)) = rg_E G i (upd (σ i) k x)) (hI : rx_SI σ → rx_SI (rx_wr σ i k x))
    (kk : rx_X p l e R s m args below meth c (rg_O G) H0 cells slots Q nL (rx_m G (rx_wr σ i k x)) (pc + 3) lo rest) : rx_X p l e R s m args below meth c (rg_O G) H0 cells slots Q nL (rx_m G σ) pc lo (.int x :: .ref (rg_A G i) :: rest) := by
  intro H locs ls hP hS hl
  refine va_put (D := rg_D G) (ref := (T k).1) C.1.1 C.1.2.1 C.1.2.2.2.2.1 hin ty0 hty hnm C.1.2.2.2.1 C.2.1.1 hP.1 (C.2.2.va _) hS i (by rw [← he]; exact rx_at hi) hc k hk (C.1.2.2.2.2.1 _ hlink) (fun _ h9 => h9) hfin hd rfl rfl hl0 hdg (fun H1 locs1 h1 h2 h3 => kk H1 locs1 ls ?_ h3 hl)
  have h4 := rx_set (ad := rg_A G) (E := rg_E G) (n := rg_N G) (σ := σ) (i := i) (k := k) (v := x) hi he2
  refine ⟨?_, hI hP.2⟩
  show va_P (rg_D G) rx_cl (rx_wd (rg_A G) (rg_E G) (rg_N G) (rx_wr σ i k x)) H1
  rw [← h4]
  exact h1
theorem rx_putN {pc i ci k N idx : Nat} {Cn host : String} {T : u_T} {fs : List Value} {x : Int32} {ty0 : Nat → FieldType} (C : rx_Cw p s m args meth c own cc nL ret G) (hin : ∀ w ∈ u_ws Cn T N, w ∈ rx_W) (hty : ∀ k, k < N → parseFieldDescriptor (T k).2.2.1 = some (ty0 k)) (hnm : ∀ a, a < N → ∀ b, b < N → a ≠ b → (T a).2.1 ≠ (T b).2.1) (hc : rx_cl[ci]? = some (Cn, T, N)) (hk : k < N) (hlink : Cond.fieldLinkNest own idx (T k).1 (T k).2.1 (T k).2.2.1 host ∈ lw_tbl) (hfin : (T k).2.2.2 = false) (hd : parseFieldDescriptor (T k).2.2.1 = some .int) (hdg : decode cc pc = .ok (.putfield idx, 3)) (hi : i < rg_N G) (he : rg_E G i (σ i) = .inr (ci, fs)) (hl0 : k < fs.length) (he2 : .inr (ci, fs.set k (.int x)) = rg_E G i (upd (σ i) k x)) (hI : rx_SI σ → rx_SI (rx_wr σ i k x))
    (kk : rx_X p l e R s m args below meth c (rg_O G) H0 cells slots Q nL (rx_m G (rx_wr σ i k x)) (pc + 3) lo rest) : rx_X p l e R s m args below meth c (rg_O G) H0 cells slots Q nL (rx_m G σ) pc lo (.int x :: .ref (rg_A G i) :: rest) := by
  intro H locs ls hP hS hl
  refine va_putN (D := rg_D G) (ref := (T k).1) C.1.1 C.1.2.1 C.1.2.2.2.2.1 hin ty0 hty hnm C.1.2.2.2.1 C.2.1.1 hP.1 (C.2.2.va _) hS i (by rw [← he]; exact rx_at hi) hc k hk (va_Nw.use rfl (C.2.1.2.1 _ hlink rfl)) (fun _ h9 => h9) hfin hd rfl rfl hl0 hdg (fun H1 locs1 h1 h2 h3 => kk H1 locs1 ls ?_ h3 hl)
  have h4 := rx_set (ad := rg_A G) (E := rg_E G) (n := rg_N G) (σ := σ) (i := i) (k := k) (v := x) hi he2
  refine ⟨?_, hI hP.2⟩
  show va_P (rg_D G) rx_cl (rx_wd (rg_A G) (rg_E G) (rg_N G) (rx_wr σ i k x)) H1
  rw [← h4]
  exact h1
/-- arrays -/
theorem rx_iald {pc i n : Nat} {j : Int32} (C : rx_Cw p s m args meth c own cc nL ret G) (hdg : decode cc pc = .ok (.iaload, 1)) (hi : i < rg_N G) (he : rg_E G i (σ i) = .inl (rg_C G 0, n, .inl (σ i))) (hin : vp_in j n)
    (kk : rx_X p l e R s m args below meth c (rg_O G) H0 cells slots Q nL (rx_m G σ) (pc + 1) lo (.int (σ i j.toNatClampNeg) :: rest)) : rx_X p l e R s m args below meth c (rg_O G) H0 cells slots Q nL (rx_m G σ) pc lo (.int j :: .ref (rg_A G i) :: rest) :=
  fun H locs ls hP hS hl => va_iald (D := rg_D G) C.1.1 C.1.2.1 C.2.1.1 hP.1 i 0 (by rw [← he]; exact rx_at hi) rfl hin hdg (kk H locs ls hP hS hl)
theorem rx_iast {pc i n : Nat} {j x : Int32} (C : rx_Cw p s m args meth c own cc nL ret G) (hdg : decode cc pc = .ok (.iastore, 1)) (hi : i < rg_N G) (he : ∀ f : Nat → Int32, rg_E G i f = .inl (rg_C G 0, n, .inl f)) (hin : vp_in j n) (hI : rx_SI σ → rx_SI (rx_wr σ i j.toNatClampNeg x))
    (kk : rx_X p l e R s m args below meth c (rg_O G) H0 cells slots Q nL (rx_m G (rx_wr σ i j.toNatClampNeg x)) (pc + 1) lo rest) : rx_X p l e R s m args below meth c (rg_O G) H0 cells slots Q nL (rx_m G σ) pc lo (.int x :: .int j :: .ref (rg_A G i) :: rest) := by
  intro H locs ls hP hS hl
  refine va_iast (D := rg_D G) C.1.1 C.1.2.1 C.2.1.1 hP.1 (C.2.2.va _) hS i 0 (by rw [← he (σ i)]; exact rx_at hi) rfl hin hdg (fun H1 locs1 h1 h2 h3 => kk H1 locs1 ls ?_ h3 hl)
  have h4 := rx_set (ad := rg_A G) (E := rg_E G) (n := rg_N G) (σ := σ) (i := i) (k := j.toNatClampNeg) (v := x) hi (he _).symm
  refine ⟨?_, hI hP.2⟩
  show va_P (rg_D G) rx_cl (rx_wd (rg_A G) (rg_E G) (rg_N G) (rx_wr σ i j.toNatClampNeg x)) H1
  rw [← h4]
  exact h1
theorem rx_aald {pc i n t a : Nat} {j : Int32} {f : Nat → Option Nat} {cA : ClassId} {Cn : String} (C : rx_Cw p s m args meth c own cc nL ret G) (hdg : decode cc pc = .ok (.aaload, 1)) (hi : i < rg_N G) (he : rg_E G i (σ i) = .inl (cA, n, .inr (.inr (.inr (.inr f))))) (ht : (rx_tys G)[t]? = some (cA, .object Cn)) (hin : vp_in j n) (hf : f j.toNatClampNeg = some a)
    (kk : rx_X p l e R s m args below meth c (rg_O G) H0 cells slots Q nL (rx_m G σ) (pc + 1) lo (.ref a :: rest)) : rx_X p l e R s m args below meth c (rg_O G) H0 cells slots Q nL (rx_m G σ) pc lo (.int j :: .ref (rg_A G i) :: rest) := by
  intro H locs ls hP hS hl
  refine va_aldq (D := rg_D G) C.1.1 C.1.2.1 C.2.1.1 hP.1 i t (by rw [← he]; exact rx_at hi) ht hin hdg ?_
  rw [hf]
  exact kk H locs ls hP hS hl
theorem rx_aast {pc i qk n t ci : Nat} {j x : Int32} {f : Nat → Option Nat} {cA : ClassId} {r : vw_C} {vs : List Value} (C : rx_Cw p s m args meth c own cc nL ret G) (hdg : decode cc pc = .ok (.aastore, 1)) (hi : i < rg_N G) (he : rg_E G i (σ i) = .inl (cA, n, .inr (.inr (.inr (.inr f))))) (ht : (rx_tys G)[t]? = some (cA, .object r.1)) (hq : qk < rg_N G) (hqe : rg_E G qk (σ qk) = .inr (ci, vs)) (hc : rx_cl[ci]? = some r) (hin : vp_in j n) (he2 : .inl (cA, n, .inr (.inr (.inr (.inr (va_up f j.toNatClampNeg (some (rg_A G qk))))))) = rg_E G i (upd (σ i) j.toNatClampNeg x)) (hI : rx_SI σ → rx_SI (rx_wr σ i j.toNatClampNeg x))
    (kk : rx_X p l e R s m args below meth c (rg_O G) H0 cells slots Q nL (rx_m G (rx_wr σ i j.toNatClampNeg x)) (pc + 1) lo rest) : rx_X p l e R s m args below meth c (rg_O G) H0 cells slots Q nL (rx_m G σ) pc lo (.ref (rg_A G qk) :: .int j :: .ref (rg_A G i) :: rest) := by
  intro H locs ls hP hS hl
  refine va_astq (D := rg_D G) C.1.1 C.1.2.1 C.2.1.1 hP.1 (C.2.2.va _) hS i t qk ci (by rw [← he]; exact rx_at hi) ht (by rw [← hqe]; exact rx_at hq) hc hin hdg (fun H1 locs1 h1 h2 h3 => kk H1 locs1 ls ?_ h3 hl)
  have h4 := rx_set (ad := rg_A G) (E := rg_E G) (n := rg_N G) (σ := σ) (i := i) (k := j.toNatClampNeg) (v := x) hi he2
  refine ⟨?_, hI hP.2⟩
  show va_P (rg_D G) rx_cl (rx_wd (rg_A G) (rg_E G) (rg_N G) (rx_wr σ i j.toNatClampNeg x)) H1
  rw [← h4]
  exact h1
theorem rx_si {pc : Nat} (k : rx_SI σ → rx_X p l e R s m args below meth c (rg_O G) H0 cells slots Q nL (rx_m G σ) pc lo st) : rx_X p l e R s m args below meth c (rg_O G) H0 cells slots Q nL (rx_m G σ) pc lo st :=
  fun H locs ls hP hS hl => k hP.2 H locs ls hP hS hl
end RXA
/-! plain instructions over the flat memory -/
section RXB
variable {p : Program} {l : Launch} {e : Env} {R : Room} {s : State} {m : MethodId} {args : Array Value} {below : List Frame} {meth : Method} {c : Code} {O : Nat → Prop} {H0 : Heap} {cells slots : Nat} {Q : State → Prop} {nL : Nat} {Φ : Heap → Prop} {lo : List (Nat × Value)} {rest : List Value} {own : String} {cc : ByteArray} {ret : Option FieldType} {pc : Nat}
theorem rx_iconst (C : rx_Cx p s m args meth c own cc nL ret) {n : Int} {v : Int32} (hd : decode cc pc = .ok (.iconst n, 1)) (hv : Int32.ofInt n = v)
    (k : rx_X p l e R s m args below meth c O H0 cells slots Q nL Φ (pc + 1) lo (.int v :: rest)) : rx_X p l e R s m args below meth c O H0 cells slots Q nL Φ pc lo rest :=
  fun H locs ls hP hS hl => lv_iconst C.1 C.2.1 hd hv (k H locs ls hP hS hl)
theorem rx_bipush (C : rx_Cx p s m args meth c own cc nL ret) {n : Int} {v : Int32} (hd : decode cc pc = .ok (.bipush n, 2)) (hv : (Int8.ofInt n).toInt32 = v)
    (k : rx_X p l e R s m args below meth c O H0 cells slots Q nL Φ (pc + 2) lo (.int v :: rest)) : rx_X p l e R s m args below meth c O H0 cells slots Q nL Φ pc lo rest :=
  fun H locs ls hP hS hl => lv_bipush C.1 C.2.1 hd hv (k H locs ls hP hS hl)
theorem rx_sipush (C : rx_Cx p s m args meth c own cc nL ret) {n : Int} {v : Int32} (hd : decode cc pc = .ok (.sipush n, 3)) (hv : (Int16.ofInt n).toInt32 = v)
    (k : rx_X p l e R s m args below meth c O H0 cells slots Q nL Φ (pc + 3) lo (.int v :: rest)) : rx_X p l e R s m args below meth c O H0 cells slots Q nL Φ pc lo rest :=
  fun H locs ls hP hS hl => lv_sipush C.1 C.2.1 hd hv (k H locs ls hP hS hl)
theorem rx_iload_n (C : rx_Cx p s m args meth c own cc nL ret) {j : Fin 4} {x : Int32} (hd : decode cc pc = .ok (.iload_n j, 1)) (hx : rx_lk lo (j : Nat) = some (.int x))
    (k : rx_X p l e R s m args below meth c O H0 cells slots Q nL Φ (pc + 1) lo (.int x :: rest)) : rx_X p l e R s m args below meth c O H0 cells slots Q nL Φ pc lo rest :=
  fun H locs ls hP hS hl => lv_iload_n C.1 C.2.1 hd rfl (hl.val hx) (k H locs ls hP hS hl)
theorem rx_iload (C : rx_Cx p s m args meth c own cc nL ret) {j : Nat} {x : Int32} (hd : decode cc pc = .ok (.iload j, 2)) (hx : rx_lk lo j = some (.int x))
    (k : rx_X p l e R s m args below meth c O H0 cells slots Q nL Φ (pc + 2) lo (.int x :: rest)) : rx_X p l e R s m args below meth c O H0 cells slots Q nL Φ pc lo rest :=
  fun H locs ls hP hS hl => lv_iload C.1 C.2.1 hd (hl.val hx) (k H locs ls hP hS hl)
theorem rx_aload_n (C : rx_Cx p s m args meth c own cc nL ret) {j : Fin 4} {x : Nat} (hd : decode cc pc = .ok (.aload_n j, 1)) (hx : rx_lk lo (j : Nat) = some (.ref x))
    (k : rx_X p l e R s m args below meth c O H0 cells slots Q nL Φ (pc + 1) lo (.ref x :: rest)) : rx_X p l e R s m args below meth c O H0 cells slots Q nL Φ pc lo rest :=
  fun H locs ls hP hS hl => lv_aload_n C.1 C.2.1 hd rfl (hl.val hx) (k H locs ls hP hS hl)
theorem rx_aload (C : rx_Cx p s m args meth c own cc nL ret) {j : Nat} {x : Nat} (hd : decode cc pc = .ok (.aload j, 2)) (hx : rx_lk lo j = some (.ref x))
    (k : rx_X p l e R s m args below meth c O H0 cells slots Q nL Φ (pc + 2) lo (.ref x :: rest)) : rx_X p l e R s m args below meth c O H0 cells slots Q nL Φ pc lo rest :=
  fun H locs ls hP hS hl => lv_aload C.1 C.2.1 hd (hl.val hx) (k H locs ls hP hS hl)
theorem rx_iadd (C : rx_Cx p s m args meth c own cc nL ret) {x y : Int32} (hd : decode cc pc = .ok (.iadd, 1))
    (k : rx_X p l e R s m args below meth c O H0 cells slots Q nL Φ (pc + 1) lo (.int (x + y) :: rest)) : rx_X p l e R s m args below meth c O H0 cells slots Q nL Φ pc lo (.int y :: .int x :: rest) :=
  fun H locs ls hP hS hl => lv_iadd C.1 C.2.1 hd (k H locs ls hP hS hl)
theorem rx_isub (C : rx_Cx p s m args meth c own cc nL ret) {x y : Int32} (hd : decode cc pc = .ok (.isub, 1))
    (k : rx_X p l e R s m args below meth c O H0 cells slots Q nL Φ (pc + 1) lo (.int (x - y) :: rest)) : rx_X p l e R s m args below meth c O H0 cells slots Q nL Φ pc lo (.int y :: .int x :: rest) :=
  fun H locs ls hP hS hl => lv_isub C.1 C.2.1 hd (k H locs ls hP hS hl)
theorem rx_imul (C : rx_Cx p s m args meth c own cc nL ret) {x y : Int32} (hd : decode cc pc = .ok (.imul, 1))
    (k : rx_X p l e R s m args below meth c O H0 cells slots Q nL Φ (pc + 1) lo (.int (x * y) :: rest)) : rx_X p l e R s m args below meth c O H0 cells slots Q nL Φ pc lo (.int y :: .int x :: rest) :=
  fun H locs ls hP hS hl => lv_imul C.1 C.2.1 hd (k H locs ls hP hS hl)
theorem rx_iand (C : rx_Cx p s m args meth c own cc nL ret) {x y : Int32} (hd : decode cc pc = .ok (.iand, 1))
    (k : rx_X p l e R s m args below meth c O H0 cells slots Q nL Φ (pc + 1) lo (.int (x &&& y) :: rest)) : rx_X p l e R s m args below meth c O H0 cells slots Q nL Φ pc lo (.int y :: .int x :: rest) :=
  fun H locs ls hP hS hl => lv_iand C.1 C.2.1 hd (k H locs ls hP hS hl)
theorem rx_ior (C : rx_Cx p s m args meth c own cc nL ret) {x y : Int32} (hd : decode cc pc = .ok (.ior, 1))
    (k : rx_X p l e R s m args below meth c O H0 cells slots Q nL Φ (pc + 1) lo (.int (x ||| y) :: rest)) : rx_X p l e R s m args below meth c O H0 cells slots Q nL Φ pc lo (.int y :: .int x :: rest) :=
  fun H locs ls hP hS hl => lv_ior C.1 C.2.1 hd (k H locs ls hP hS hl)
theorem rx_ixor (C : rx_Cx p s m args meth c own cc nL ret) {x y : Int32} (hd : decode cc pc = .ok (.ixor, 1))
    (k : rx_X p l e R s m args below meth c O H0 cells slots Q nL Φ (pc + 1) lo (.int (x ^^^ y) :: rest)) : rx_X p l e R s m args below meth c O H0 cells slots Q nL Φ pc lo (.int y :: .int x :: rest) :=
  fun H locs ls hP hS hl => lv_ixor C.1 C.2.1 hd (k H locs ls hP hS hl)
theorem rx_idiv (C : rx_Cx p s m args meth c own cc nL ret) {x y : Int32} (hd : decode cc pc = .ok (.idiv, 1)) (hne : ¬ y = 0)
    (k : rx_X p l e R s m args below meth c O H0 cells slots Q nL Φ (pc + 1) lo (.int (x / y) :: rest)) : rx_X p l e R s m args below meth c O H0 cells slots Q nL Φ pc lo (.int y :: .int x :: rest) :=
  fun H locs ls hP hS hl => lv_idiv C.1 C.2.1 hd hne (k H locs ls hP hS hl)
theorem rx_irem (C : rx_Cx p s m args meth c own cc nL ret) {x y : Int32} (hd : decode cc pc = .ok (.irem, 1)) (hne : ¬ y = 0)
    (k : rx_X p l e R s m args below meth c O H0 cells slots Q nL Φ (pc + 1) lo (.int (x - x / y * y) :: rest)) : rx_X p l e R s m args below meth c O H0 cells slots Q nL Φ pc lo (.int y :: .int x :: rest) :=
  fun H locs ls hP hS hl => lv_irem C.1 C.2.1 hd hne (k H locs ls hP hS hl)
theorem rx_idivv (C : rx_Cx p s m args meth c own cc nL ret) {x y v : Int32} (hd : decode cc pc = .ok (.idiv, 1)) (hne : ¬ y = 0) (hv : x / y = v)
    (k : rx_X p l e R s m args below meth c O H0 cells slots Q nL Φ (pc + 1) lo (.int v :: rest)) : rx_X p l e R s m args below meth c O H0 cells slots Q nL Φ pc lo (.int y :: .int x :: rest) := by
  subst hv
  exact rx_idiv C hd hne k
theorem rx_iremv (C : rx_Cx p s m args meth c own cc nL ret) {x y v : Int32} (hd : decode cc pc = .ok (.irem, 1)) (hne : ¬ y = 0) (hv : x - x / y * y = v)
    (k : rx_X p l e R s m args below meth c O H0 cells slots Q nL Φ (pc + 1) lo (.int v :: rest)) : rx_X p l e R s m args below meth c O H0 cells slots Q nL Φ pc lo (.int y :: .int x :: rest) := by
  subst hv
  exact rx_irem C hd hne k
theorem rx_iushr (C : rx_Cx p s m args meth c own cc nL ret) {x y v : Int32} (hd : decode cc pc = .ok (.iushr, 1)) (hv : (x.toUInt32 >>> (y.toUInt32 &&& Int32.toUInt32 31)).toInt32 = v)
    (k : rx_X p l e R s m args below meth c O H0 cells slots Q nL Φ (pc + 1) lo (.int v :: rest)) : rx_X p l e R s m args below meth c O H0 cells slots Q nL Φ pc lo (.int y :: .int x :: rest) :=
  fun H locs ls hP hS hl => lv_iushr C.1 C.2.1 hd hv (k H locs ls hP hS hl)
theorem rx_dup (C : rx_Cx p s m args meth c own cc nL ret) {va : Value} (hd : decode cc pc = .ok (.dup, 1)) (hva : va.category = 1)
    (k : rx_X p l e R s m args below meth c O H0 cells slots Q nL Φ (pc + 1) lo (va :: va :: rest)) : rx_X p l e R s m args below meth c O H0 cells slots Q nL Φ pc lo (va :: rest) :=
  fun H locs ls hP hS hl => lv_dup C.1 C.2.1 hd hva (k H locs ls hP hS hl)
theorem rx_pop (C : rx_Cx p s m args meth c own cc nL ret) {va : Value} (hd : decode cc pc = .ok (.pop, 1)) (hva : va.category = 1)
    (k : rx_X p l e R s m args below meth c O H0 cells slots Q nL Φ (pc + 1) lo rest) : rx_X p l e R s m args below meth c O H0 cells slots Q nL Φ pc lo (va :: rest) :=
  fun H locs ls hP hS hl => lv_pop C.1 C.2.1 hd hva (k H locs ls hP hS hl)
theorem rx_dup_x1 (C : rx_Cx p s m args meth c own cc nL ret) {va vb : Value} (hd : decode cc pc = .ok (.dup_x1, 1)) (hva : va.category = 1) (hvb : vb.category = 1)
    (k : rx_X p l e R s m args below meth c O H0 cells slots Q nL Φ (pc + 1) lo (va :: vb :: va :: rest)) : rx_X p l e R s m args below meth c O H0 cells slots Q nL Φ pc lo (va :: vb :: rest) :=
  fun H locs ls hP hS hl => lv_dup_x1 C.1 C.2.1 hd hva hvb (k H locs ls hP hS hl)
theorem rx_dup_x2 (C : rx_Cx p s m args meth c own cc nL ret) {va vb vd : Value} (hd : decode cc pc = .ok (.dup_x2, 1)) (hva : va.category = 1) (hvb : vb.category = 1) (hvd : vd.category = 1)
    (k : rx_X p l e R s m args below meth c O H0 cells slots Q nL Φ (pc + 1) lo (va :: vb :: vd :: va :: rest)) : rx_X p l e R s m args below meth c O H0 cells slots Q nL Φ pc lo (va :: vb :: vd :: rest) :=
  fun H locs ls hP hS hl => lv_dup_x2 C.1 C.2.1 hd hva hvb hvd (k H locs ls hP hS hl)
theorem rx_dup2_11 (C : rx_Cx p s m args meth c own cc nL ret) {va vb : Value} (hd : decode cc pc = .ok (.dup2, 1)) (hva : va.category = 1) (hvb : vb.category = 1)
    (k : rx_X p l e R s m args below meth c O H0 cells slots Q nL Φ (pc + 1) lo (va :: vb :: va :: vb :: rest)) : rx_X p l e R s m args below meth c O H0 cells slots Q nL Φ pc lo (va :: vb :: rest) :=
  fun H locs ls hP hS hl => lv_dup2_11 C.1 C.2.1 hd hva hvb (k H locs ls hP hS hl)
theorem rx_ldc (C : rx_Cx p s m args meth c own cc nL ret) {idx : Nat} {v : Int32} (hconst : Cond.constant own idx v ∈ rx_W) (hd : decode cc pc = .ok (.ldc idx, 2))
    (k : rx_X p l e R s m args below meth c O H0 cells slots Q nL Φ (pc + 2) lo (.int v :: rest)) : rx_X p l e R s m args below meth c O H0 cells slots Q nL Φ pc lo rest :=
  fun H locs ls hP hS hl => lv_ldc C.1 C.2.1 C.2.2.2.1 (C.2.2.2.2.1 _ hconst) hd (k H locs ls hP hS hl)
theorem rx_goto (C : rx_Cx p s m args meth c own cc nL ret) {off : Int} {tgt : Nat} (hd : decode cc pc = .ok (.goto off, 3)) (ht : (pc : Int) + off = (tgt : Int))
    (k : rx_X p l e R s m args below meth c O H0 cells slots Q nL Φ tgt lo rest) : rx_X p l e R s m args below meth c O H0 cells slots Q nL Φ pc lo rest :=
  fun H locs ls hP hS hl => lv_goto C.1 C.2.1 hd ht (k H locs ls hP hS hl)
theorem rx_if_eq (C : rx_Cx p s m args meth c own cc nL ret) {x : Int32} {off : Int} {tgt : Nat} (hd : decode cc pc = .ok (.ifCond .eq off, 3)) (ht : (pc : Int) + off = (tgt : Int))
    (kt : x = 0 → rx_X p l e R s m args below meth c O H0 cells slots Q nL Φ tgt lo rest) (kf : ¬ x = 0 → rx_X p l e R s m args below meth c O H0 cells slots Q nL Φ (pc + 3) lo rest) : rx_X p l e R s m args below meth c O H0 cells slots Q nL Φ pc lo (.int x :: rest) :=
  fun H locs ls hP hS hl => lv_if_eq C.1 C.2.1 hd ht (fun h => kt h H locs ls hP hS hl) (fun h => kf h H locs ls hP hS hl)
theorem rx_if_ne (C : rx_Cx p s m args meth c own cc nL ret) {x : Int32} {off : Int} {tgt : Nat} (hd : decode cc pc = .ok (.ifCond .ne off, 3)) (ht : (pc : Int) + off = (tgt : Int))
    (kt : ¬ x = 0 → rx_X p l e R s m args below meth c O H0 cells slots Q nL Φ tgt lo rest) (kf : x = 0 → rx_X p l e R s m args below meth c O H0 cells slots Q nL Φ (pc + 3) lo rest) : rx_X p l e R s m args below meth c O H0 cells slots Q nL Φ pc lo (.int x :: rest) :=
  fun H locs ls hP hS hl => lv_if_ne C.1 C.2.1 hd ht (fun h => kt h H locs ls hP hS hl) (fun h => kf h H locs ls hP hS hl)
theorem rx_if_lt (C : rx_Cx p s m args meth c own cc nL ret) {x : Int32} {off : Int} {tgt : Nat} (hd : decode cc pc = .ok (.ifCond .lt off, 3)) (ht : (pc : Int) + off = (tgt : Int))
    (kt : x < 0 → rx_X p l e R s m args below meth c O H0 cells slots Q nL Φ tgt lo rest) (kf : ¬ x < 0 → rx_X p l e R s m args below meth c O H0 cells slots Q nL Φ (pc + 3) lo rest) : rx_X p l e R s m args below meth c O H0 cells slots Q nL Φ pc lo (.int x :: rest) :=
  fun H locs ls hP hS hl => lv_if_lt C.1 C.2.1 hd ht (fun h => kt h H locs ls hP hS hl) (fun h => kf h H locs ls hP hS hl)
theorem rx_if_ge (C : rx_Cx p s m args meth c own cc nL ret) {x : Int32} {off : Int} {tgt : Nat} (hd : decode cc pc = .ok (.ifCond .ge off, 3)) (ht : (pc : Int) + off = (tgt : Int))
    (kt : 0 ≤ x → rx_X p l e R s m args below meth c O H0 cells slots Q nL Φ tgt lo rest) (kf : ¬ 0 ≤ x → rx_X p l e R s m args below meth c O H0 cells slots Q nL Φ (pc + 3) lo rest) : rx_X p l e R s m args below meth c O H0 cells slots Q nL Φ pc lo (.int x :: rest) :=
  fun H locs ls hP hS hl => lv_if_ge C.1 C.2.1 hd ht (fun h => kt h H locs ls hP hS hl) (fun h => kf h H locs ls hP hS hl)
theorem rx_if_gt (C : rx_Cx p s m args meth c own cc nL ret) {x : Int32} {off : Int} {tgt : Nat} (hd : decode cc pc = .ok (.ifCond .gt off, 3)) (ht : (pc : Int) + off = (tgt : Int))
    (kt : 0 < x → rx_X p l e R s m args below meth c O H0 cells slots Q nL Φ tgt lo rest) (kf : ¬ 0 < x → rx_X p l e R s m args below meth c O H0 cells slots Q nL Φ (pc + 3) lo rest) : rx_X p l e R s m args below meth c O H0 cells slots Q nL Φ pc lo (.int x :: rest) :=
  fun H locs ls hP hS hl => lv_if_gt C.1 C.2.1 hd ht (fun h => kt h H locs ls hP hS hl) (fun h => kf h H locs ls hP hS hl)
theorem rx_if_le (C : rx_Cx p s m args meth c own cc nL ret) {x : Int32} {off : Int} {tgt : Nat} (hd : decode cc pc = .ok (.ifCond .le off, 3)) (ht : (pc : Int) + off = (tgt : Int))
    (kt : x ≤ 0 → rx_X p l e R s m args below meth c O H0 cells slots Q nL Φ tgt lo rest) (kf : ¬ x ≤ 0 → rx_X p l e R s m args below meth c O H0 cells slots Q nL Φ (pc + 3) lo rest) : rx_X p l e R s m args below meth c O H0 cells slots Q nL Φ pc lo (.int x :: rest) :=
  fun H locs ls hP hS hl => lv_if_le C.1 C.2.1 hd ht (fun h => kt h H locs ls hP hS hl) (fun h => kf h H locs ls hP hS hl)
theorem rx_icmp_eq (C : rx_Cx p s m args meth c own cc nL ret) {x y : Int32} {off : Int} {tgt : Nat} (hd : decode cc pc = .ok (.if_icmp .eq off, 3)) (ht : (pc : Int) + off = (tgt : Int))
    (kt : x = y → rx_X p l e R s m args below meth c O H0 cells slots Q nL Φ tgt lo rest) (kf : ¬ x = y → rx_X p l e R s m args below meth c O H0 cells slots Q nL Φ (pc + 3) lo rest) : rx_X p l e R s m args below meth c O H0 cells slots Q nL Φ pc lo (.int y :: .int x :: rest) :=
  fun H locs ls hP hS hl => lv_icmp_eq C.1 C.2.1 hd ht (fun h => kt h H locs ls hP hS hl) (fun h => kf h H locs ls hP hS hl)
theorem rx_icmp_ne (C : rx_Cx p s m args meth c own cc nL ret) {x y : Int32} {off : Int} {tgt : Nat} (hd : decode cc pc = .ok (.if_icmp .ne off, 3)) (ht : (pc : Int) + off = (tgt : Int))
    (kt : ¬ x = y → rx_X p l e R s m args below meth c O H0 cells slots Q nL Φ tgt lo rest) (kf : x = y → rx_X p l e R s m args below meth c O H0 cells slots Q nL Φ (pc + 3) lo rest) : rx_X p l e R s m args below meth c O H0 cells slots Q nL Φ pc lo (.int y :: .int x :: rest) :=
  fun H locs ls hP hS hl => lv_icmp_ne C.1 C.2.1 hd ht (fun h => kt h H locs ls hP hS hl) (fun h => kf h H locs ls hP hS hl)
theorem rx_icmp_lt (C : rx_Cx p s m args meth c own cc nL ret) {x y : Int32} {off : Int} {tgt : Nat} (hd : decode cc pc = .ok (.if_icmp .lt off, 3)) (ht : (pc : Int) + off = (tgt : Int))
    (kt : x < y → rx_X p l e R s m args below meth c O H0 cells slots Q nL Φ tgt lo rest) (kf : ¬ x < y → rx_X p l e R s m args below meth c O H0 cells slots Q nL Φ (pc + 3) lo rest) : rx_X p l e R s m args below meth c O H0 cells slots Q nL Φ pc lo (.int y :: .int x :: rest) :=
  fun H locs ls hP hS hl => lv_icmp_lt C.1 C.2.1 hd ht (fun h => kt h H locs ls hP hS hl) (fun h => kf h H locs ls hP hS hl)
theorem rx_icmp_ge (C : rx_Cx p s m args meth c own cc nL ret) {x y : Int32} {off : Int} {tgt : Nat} (hd : decode cc pc = .ok (.if_icmp .ge off, 3)) (ht : (pc : Int) + off = (tgt : Int))
    (kt : y ≤ x → rx_X p l e R s m args below meth c O H0 cells slots Q nL Φ tgt lo rest) (kf : ¬ y ≤ x → rx_X p l e R s m args below meth c O H0 cells slots Q nL Φ (pc + 3) lo rest) : rx_X p l e R s m args below meth c O H0 cells slots Q nL Φ pc lo (.int y :: .int x :: rest) :=
  fun H locs ls hP hS hl => lv_icmp_ge C.1 C.2.1 hd ht (fun h => kt h H locs ls hP hS hl) (fun h => kf h H locs ls hP hS hl)
theorem rx_icmp_gt (C : rx_Cx p s m args meth c own cc nL ret) {x y : Int32} {off : Int} {tgt : Nat} (hd : decode cc pc = .ok (.if_icmp .gt off, 3)) (ht : (pc : Int) + off = (tgt : Int))
    (kt : y < x → rx_X p l e R s m args below meth c O H0 cells slots Q nL Φ tgt lo rest) (kf : ¬ y < x → rx_X p l e R s m args below meth c O H0 cells slots Q nL Φ (pc + 3) lo rest) : rx_X p l e R s m args below meth c O H0 cells slots Q nL Φ pc lo (.int y :: .int x :: rest) :=
  fun H locs ls hP hS hl => lv_icmp_gt C.1 C.2.1 hd ht (fun h => kt h H locs ls hP hS hl) (fun h => kf h H locs ls hP hS hl)
theorem rx_icmp_le (C : rx_Cx p s m args meth c own cc nL ret) {x y : Int32} {off : Int} {tgt : Nat} (hd : decode cc pc = .ok (.if_icmp .le off, 3)) (ht : (pc : Int) + off = (tgt : Int))
    (kt : x ≤ y → rx_X p l e R s m args below meth c O H0 cells slots Q nL Φ tgt lo rest) (kf : ¬ x ≤ y → rx_X p l e R s m args below meth c O H0 cells slots Q nL Φ (pc + 3) lo rest) : rx_X p l e R s m args below meth c O H0 cells slots Q nL Φ pc lo (.int y :: .int x :: rest) :=
  fun H locs ls hP hS hl => lv_icmp_le C.1 C.2.1 hd ht (fun h => kt h H locs ls hP hS hl) (fun h => kf h H locs ls hP hS hl)
theorem rx_istore (C : rx_Cx p s m args meth c own cc nL ret) {j : Nat} {x : Int32} (hd : decode cc pc = .ok (.istore j, 2)) (hn : j < nL)
    (k : rx_X p l e R s m args below meth c O H0 cells slots Q nL Φ (pc + 2) ((j, .int x) :: lo) rest) : rx_X p l e R s m args below meth c O H0 cells slots Q nL Φ pc lo (.int x :: rest) := by
  intro H locs ls hP hS hl
  obtain ⟨lv, h1, h2⟩ := hl
  exact lv_istore C.1 C.2.1 hd h1 hn rfl (fun ls' h' => k H locs ls' hP hS (rx_has.put rfl h2 h'))
theorem rx_istore_n (C : rx_Cx p s m args meth c own cc nL ret) {j : Fin 4} {x : Int32} (hd : decode cc pc = .ok (.istore_n j, 1)) (hn : (j : Nat) < nL)
    (k : rx_X p l e R s m args below meth c O H0 cells slots Q nL Φ (pc + 1) (((j : Nat), .int x) :: lo) rest) : rx_X p l e R s m args below meth c O H0 cells slots Q nL Φ pc lo (.int x :: rest) := by
  intro H locs ls hP hS hl
  obtain ⟨lv, h1, h2⟩ := hl
  exact lv_istore_n C.1 C.2.1 hd rfl h1 hn rfl (fun ls' h' => k H locs ls' hP hS (rx_has.put rfl h2 h'))
theorem rx_astore (C : rx_Cx p s m args meth c own cc nL ret) {j : Nat} {x : Nat} (hd : decode cc pc = .ok (.astore j, 2)) (hn : j < nL)
    (k : rx_X p l e R s m args below meth c O H0 cells slots Q nL Φ (pc + 2) ((j, .ref x) :: lo) rest) : rx_X p l e R s m args below meth c O H0 cells slots Q nL Φ pc lo (.ref x :: rest) := by
  intro H locs ls hP hS hl
  obtain ⟨lv, h1, h2⟩ := hl
  exact lv_astore C.1 C.2.1 hd h1 hn rfl (fun ls' h' => k H locs ls' hP hS (rx_has.put rfl h2 h'))
theorem rx_astore_n (C : rx_Cx p s m args meth c own cc nL ret) {j : Fin 4} {x : Nat} (hd : decode cc pc = .ok (.astore_n j, 1)) (hn : (j : Nat) < nL)
    (k : rx_X p l e R s m args below meth c O H0 cells slots Q nL Φ (pc + 1) (((j : Nat), .ref x) :: lo) rest) : rx_X p l e R s m args below meth c O H0 cells slots Q nL Φ pc lo (.ref x :: rest) := by
  intro H locs ls hP hS hl
  obtain ⟨lv, h1, h2⟩ := hl
  exact lv_astore_n C.1 C.2.1 hd rfl h1 hn rfl (fun ls' h' => k H locs ls' hP hS (rx_has.put rfl h2 h'))
theorem rx_iinc (C : rx_Cx p s m args meth c own cc nL ret) {j : Nat} {n : Int} {x v : Int32} (hd : decode cc pc = .ok (.iinc j n, 3)) (hx : rx_lk lo j = some (.int x)) (hv : x + Int32.ofInt n = v) (hn : j < nL)
    (k : rx_X p l e R s m args below meth c O H0 cells slots Q nL Φ (pc + 3) ((j, .int v) :: lo) rest) : rx_X p l e R s m args below meth c O H0 cells slots Q nL Φ pc lo rest := by
  intro H locs ls hP hS hl
  obtain ⟨lv, h1, h2⟩ := hl
  obtain ⟨q, hq⟩ := List.getElem?_of_mem (h2 j _ hx).1
  exact lv_iinc C.1 C.2.1 hd h1 hq hv hn rfl (fun ls' h' => k H locs ls' hP hS (rx_has.put rfl h2 h'))
theorem rx_loc (C : rx_Cx p s m args meth c own cc nL ret) {lo' : List (Nat × Value)} (hw : ∀ q ∈ lo', rx_lk lo q.1 = some q.2) {st : List Value}
    (k : rx_X p l e R s m args below meth c O H0 cells slots Q nL Φ pc lo' st) : rx_X p l e R s m args below meth c O H0 cells slots Q nL Φ pc lo st :=
  fun H locs ls hP hS hl => k H locs ls hP hS (hl.weak hw)
theorem rx_tin (C : rx_Cx p s m args meth c own cc nL ret) {x v : Int32} (hx : x = v) {dflt low hi : Int} {offs : Array Int} {len : Nat} {off : Int} {tgt : Nat} (hd : decode cc pc = .ok (.tableswitch dflt low hi offs, len)) (h1 : ¬ v.toInt < low) (h2 : ¬ hi < v.toInt) (ho : offs[(v.toInt - low).toNat]? = some off) (ht : (pc : Int) + off = (tgt : Int))
    (k : rx_X p l e R s m args below meth c O H0 cells slots Q nL Φ tgt lo rest) : rx_X p l e R s m args below meth c O H0 cells slots Q nL Φ pc lo (.int x :: rest) := by
  subst hx
  exact fun H locs ls hP hS hl => lv_tableIn C.1 C.2.1 hd h1 h2 ho ht (k H locs ls hP hS hl)
theorem rx_tout (C : rx_Cx p s m args meth c own cc nL ret) {x : Int32} {dflt low hi : Int} {offs : Array Int} {len : Nat} {tgt : Nat} (hd : decode cc pc = .ok (.tableswitch dflt low hi offs, len)) (h : x.toInt < low ∨ hi < x.toInt) (ht : (pc : Int) + dflt = (tgt : Int))
    (k : rx_X p l e R s m args below meth c O H0 cells slots Q nL Φ tgt lo rest) : rx_X p l e R s m args below meth c O H0 cells slots Q nL Φ pc lo (.int x :: rest) :=
  fun H locs ls hP hS hl => lv_tableOut C.1 C.2.1 hd h ht (k H locs ls hP hS hl)
theorem rx_tout4 (C : rx_Cx p s m args meth c own cc nL ret) {x : Int32} (h0 : ¬ x = 0) (h1 : ¬ x = 1) (h2 : ¬ x = 2) (h3 : ¬ x = 3) {dflt : Int} {offs : Array Int} {len : Nat} {tgt : Nat} (hd : decode cc pc = .ok (.tableswitch dflt 0 3 offs, len)) (ht : (pc : Int) + dflt = (tgt : Int))
    (k : rx_X p l e R s m args below meth c O H0 cells slots Q nL Φ tgt lo rest) : rx_X p l e R s m args below meth c O H0 cells slots Q nL Φ pc lo (.int x :: rest) := by
  refine rx_tout C hd ?_ ht k
  rw [rx_eqI] at h0 h1 h2 h3
  have e0 : (0 : Int32).toInt = 0 := rfl
  have e1 : (1 : Int32).toInt = 1 := rfl
  have e2 : (2 : Int32).toInt = 2 := rfl
  have e3 : (3 : Int32).toInt = 3 := rfl
  omega
theorem rx_isubv (C : rx_Cx p s m args meth c own cc nL ret) {x y v : Int32} (hd : decode cc pc = .ok (.isub, 1)) (hv : x - y = v)
    (k : rx_X p l e R s m args below meth c O H0 cells slots Q nL Φ (pc + 1) lo (.int v :: rest)) : rx_X p l e R s m args below meth c O H0 cells slots Q nL Φ pc lo (.int y :: .int x :: rest) := by
  subst hv
  exact rx_isub C hd k
end RXB
/-! the cells of the system, by number: 0 net, 1 wire, 2 rows, 3..43 messages, 44 the arrived one, 45 mobiles, 46 47 mobile, 48 home, 49..52 its rows, 53 foreign, 54 58 62 agents with three rows each behind them, 66 correspondent, 67..70 its rows, 71 the reference, 72..95 its rows -/
def rx_msg (s : Nat → Int32) : va_E := .inr (1, [.int (s 0), .int (s 1), .int (s 2), .int (s 3), .int (s 4), .int (s 5), .int (s 6), .int (s 7), .int (s 8)])
def rx_mob (ad : Nat → Nat) (s : Nat → Int32) : va_E := .inr (3, [.int (s 0), .int (s 1), .ref (ad 1), .int (s 3), .int (s 4), .int (s 5), .int (s 6), .int (s 7), .int (s 8), .int (s 9), .int (s 10), .int (s 11), .int (s 12), .int (s 13)])
def rx_fa (ad : Nat → Nat) (i : Nat) (s : Nat → Int32) : va_E := .inr (5, [.int (s 0), .int (s 1), .ref (ad 1), .ref (ad (i + 1)), .ref (ad (i + 2)), .ref (ad (i + 3))])
def rx_ia (ca : Nat → ClassId) (n : Nat) (s : Nat → Int32) : va_E := .inl (ca 0, n, .inl s)
def rx_qa (ca : ClassId) (n : Nat) (f : Nat → Option Nat) : va_E := .inl (ca, n, .inr (.inr (.inr (.inr f))))
def rx_len (i : Nat) : Nat := if i = 72 then 369 else if i = 73 then 9 else if i < 89 then 2 else if i < 92 then 8 else 2
def rx_mo (ad : Nat → Nat) (s : Nat → Int32) : va_E := .inr (7, [.int (s 0), .int (s 1), .int (s 2), .int (s 3), .int (s 4), .ref (ad 72), .ref (ad 73), .ref (ad 74), .ref (ad 75), .ref (ad 76), .ref (ad 77), .ref (ad 78), .ref (ad 79), .ref (ad 80), .ref (ad 81), .ref (ad 82), .ref (ad 83), .ref (ad 84), .ref (ad 85), .ref (ad 86), .ref (ad 87), .ref (ad 88), .ref (ad 89), .ref (ad 90), .ref (ad 91), .ref (ad 92), .ref (ad 93), .ref (ad 94), .ref (ad 95)])
def rx_E (ad : Nat → Nat) (ca : Nat → ClassId) (i : Nat) (s : Nat → Int32) : va_E :=
  if i = 0 then .inr (0, [.ref (ad 1), .ref (ad 44), .ref (ad 45), .ref (ad 48), .ref (ad 53), .ref (ad 66)])
  else if i = 1 then .inr (2, [.ref (ad 2), .int (s 1), .int (s 2)])
  else if i = 2 then rx_qa (ca 1) 41 (fun k => some (ad (2 + (s k).toNatClampNeg)))
  else if i < 45 then rx_msg s
  else if i = 45 then rx_qa (ca 2) 2 (fun k => some (ad (46 + k)))
  else if i < 48 then rx_mob ad s
  else if i = 48 then .inr (4, [.int (s 0), .ref (ad 1), .ref (ad 49), .ref (ad 50), .ref (ad 51), .ref (ad 52)])
  else if i < 53 then rx_ia ca 2 s
  else if i = 53 then rx_qa (ca 3) 3 (fun k => some (ad (54 + 4 * k)))
  else if i < 66 then (if (i - 54) % 4 = 0 then rx_fa ad i s else rx_ia ca 2 s)
  else if i = 66 then .inr (6, [.ref (ad 1), .ref (ad 67), .ref (ad 68), .ref (ad 69), .ref (ad 70)])
  else if i < 71 then rx_ia ca 2 s
  else if i = 71 then rx_mo ad s
  else rx_ia ca (rx_len i) s
theorem rx_E_msg {ad : Nat → Nat} {ca : Nat → ClassId} {i : Nat} (h : 3 ≤ i ∧ i < 45) (s : Nat → Int32) : rx_E ad ca i s = rx_msg s := by
  unfold rx_E
  rw [if_neg (by omega), if_neg (by omega), if_neg (by omega), if_pos (by omega)]
theorem rx_E_mob {ad : Nat → Nat} {ca : Nat → ClassId} {j : Nat} (h : j < 2) (s : Nat → Int32) : rx_E ad ca (46 + j) s = rx_mob ad s := by
  unfold rx_E
  rw [if_neg (by omega), if_neg (by omega), if_neg (by omega), if_neg (by omega), if_neg (by omega), if_pos (by omega)]
theorem rx_E_fa {ad : Nat → Nat} {ca : Nat → ClassId} {a : Nat} (h : a < 3) (s : Nat → Int32) : rx_E ad ca (54 + 4 * a) s = rx_fa ad (54 + 4 * a) s := by
  unfold rx_E
  rw [if_neg (by omega), if_neg (by omega), if_neg (by omega), if_neg (by omega), if_neg (by omega), if_neg (by omega), if_neg (by omega), if_neg (by omega), if_neg (by omega), if_pos (by omega), if_pos (by omega)]
theorem rx_E_fr {ad : Nat → Nat} {ca : Nat → ClassId} {a t : Nat} (h : a < 3) (ht : 1 ≤ t ∧ t ≤ 3) (s : Nat → Int32) : rx_E ad ca (54 + 4 * a + t) s = rx_ia ca 2 s := by
  unfold rx_E
  rw [if_neg (by omega), if_neg (by omega), if_neg (by omega), if_neg (by omega), if_neg (by omega), if_neg (by omega), if_neg (by omega), if_neg (by omega), if_neg (by omega), if_pos (by omega), if_neg (by omega)]
/-- the place of the whole system at base b -/
def rx_fin (D : va_G) (b : Nat) (ca : Nat → ClassId) : rGT := (D, fun i => b + i, ca, fun q => b ≤ q, rx_E (fun i => b + i) ca, 96)
theorem rx_fin_D (D : va_G) (b : Nat) (ca : Nat → ClassId) : rx_D (rx_fin D b ca) := ⟨fun i j _ _ h => by
    have h : b + i = b + j := h
    omega, fun i _ => by
    show b ≤ b + i
    omega⟩
theorem rx_lt {D : va_G} {b : Nat} {ca : Nat → ClassId} {i : Nat} (h : i < 96) : i < rg_N (rx_fin D b ca) := h
theorem rx_v02 : vp_in 0 2 := vp_in_iff.mpr (by decide)
theorem rx_v12 : vp_in 1 2 := vp_in_iff.mpr (by decide)
theorem rx_vn {x : Int32} {n : Nat} (h : vp_in x n) : x.toNatClampNeg < n := Nat.not_le.mp fun q => h (Or.inr q)
theorem rx_z {c : Prop} (i : Decidable c) : (@ite Int32 c i 0 1) = 0 ∨ (@ite Int32 c i 0 1) = 1 := by
  by_cases h : c
  · exact Or.inl (if_pos h)
  · exact Or.inr (if_neg h)
section RXC
variable {p : Program} {l : Launch} {e : Env} {R : Room} {s : State} {m : MethodId} {args : Array Value} {below : List Frame} {meth : Method} {c : Code} {H0 : Heap} {cells slots : Nat} {Q : State → Prop} {nL : Nat} {σ σ' : rMem} {lo : List (Nat × Value)} {rest : List Value} {own : String} {cc : ByteArray} {ret : Option FieldType} {pc : Nat} (D : va_G) (b : Nat) (ca : Nat → ClassId)
theorem rx_ald_mobs {x : Int32} (C : rx_Cw p s m args meth c own cc nL ret (rx_fin D b ca)) (hd : decode cc pc = .ok (.aaload, 1)) (hin : vp_in x 2)
    (kk : rx_X p l e R s m args below meth c (rg_O (rx_fin D b ca)) H0 cells slots Q nL (rx_m (rx_fin D b ca) σ) (pc + 1) lo (.ref (rg_A (rx_fin D b ca) (46 + x.toNatClampNeg)) :: rest)) : rx_X p l e R s m args below meth c (rg_O (rx_fin D b ca)) H0 cells slots Q nL (rx_m (rx_fin D b ca) σ) pc lo (.int x :: .ref (rg_A (rx_fin D b ca) 45) :: rest) :=
  rx_aald (i := 45) (t := 2) (n := 2) C hd (rx_lt (by decide)) rfl rfl hin rfl kk
theorem rx_ald_rows {x : Int32} (C : rx_Cw p s m args meth c own cc nL ret (rx_fin D b ca)) (hd : decode cc pc = .ok (.aaload, 1)) (hin : vp_in x 41)
    (kk : rx_X p l e R s m args below meth c (rg_O (rx_fin D b ca)) H0 cells slots Q nL (rx_m (rx_fin D b ca) σ) (pc + 1) lo (.ref (rg_A (rx_fin D b ca) (2 + (σ 2 x.toNatClampNeg).toNatClampNeg)) :: rest)) : rx_X p l e R s m args below meth c (rg_O (rx_fin D b ca)) H0 cells slots Q nL (rx_m (rx_fin D b ca) σ) pc lo (.int x :: .ref (rg_A (rx_fin D b ca) 2) :: rest) :=
  rx_aald (i := 2) (t := 1) (n := 41) C hd (rx_lt (by decide)) rfl rfl hin rfl kk
theorem rx_ald_fas {x : Int32} (C : rx_Cw p s m args meth c own cc nL ret (rx_fin D b ca)) (hd : decode cc pc = .ok (.aaload, 1)) (hin : vp_in x 3)
    (kk : rx_X p l e R s m args below meth c (rg_O (rx_fin D b ca)) H0 cells slots Q nL (rx_m (rx_fin D b ca) σ) (pc + 1) lo (.ref (rg_A (rx_fin D b ca) (54 + 4 * x.toNatClampNeg)) :: rest)) : rx_X p l e R s m args below meth c (rg_O (rx_fin D b ca)) H0 cells slots Q nL (rx_m (rx_fin D b ca) σ) pc lo (.int x :: .ref (rg_A (rx_fin D b ca) 53) :: rest) :=
  rx_aald (i := 53) (t := 3) (n := 3) C hd (rx_lt (by decide)) rfl rfl hin rfl kk
/-- a row of the wire is put into another place of it -/
theorem rx_ast_rows {x v : Int32} (C : rx_Cw p s m args meth c own cc nL ret (rx_fin D b ca)) (hd : decode cc pc = .ok (.aastore, 1)) (hin : vp_in x 41) (hv : 1 ≤ v.toInt ∧ v.toInt ≤ 41)
    (kk : rx_X p l e R s m args below meth c (rg_O (rx_fin D b ca)) H0 cells slots Q nL (rx_m (rx_fin D b ca) (rx_wr σ 2 x.toNatClampNeg v)) (pc + 1) lo rest) : rx_X p l e R s m args below meth c (rg_O (rx_fin D b ca)) H0 cells slots Q nL (rx_m (rx_fin D b ca) σ) pc lo (.ref (rg_A (rx_fin D b ca) (2 + v.toNatClampNeg)) :: .int x :: .ref (rg_A (rx_fin D b ca) 2) :: rest) := by
  have h2 := rx_cn (x := v) (by omega)
  have hq : 3 ≤ 2 + v.toNatClampNeg ∧ 2 + v.toNatClampNeg < 45 := by omega
  refine rx_aast (i := 2) (t := 1) (n := 41) (qk := 2 + v.toNatClampNeg) (x := v) (r := (R_Msg, F_Msg, 9)) C hd (rx_lt (by decide)) rfl rfl (rx_lt (by omega)) (rx_E_msg hq _) rfl hin ?_ (rx_SI_row hv) kk
  show rx_qa (ca 1) 41 _ = rx_qa (ca 1) 41 (fun k => some (b + (2 + (upd (σ 2) x.toNatClampNeg v k).toNatClampNeg)))
  congr 1
  funext k
  by_cases hk : k = x.toNatClampNeg
  · subst hk
    simp [va_up, upd, rx_fin]
  · simp [va_up, upd, hk, rx_fin]
end RXC
theorem rx_iM0 : rx_iM 0 := ⟨by decide, by decide⟩
theorem rx_iM1 : rx_iM 1 := ⟨by decide, by decide⟩
def rx_sub : List (Nat × Value) → List (Nat × Value) → Prop
  | [], _ => True
  | q :: t, lo => rx_lk lo q.1 = some q.2 ∧ rx_sub t lo
theorem rx_sub_all : ∀ {lo' lo : List (Nat × Value)}, rx_sub lo' lo → ∀ q ∈ lo', rx_lk lo q.1 = some q.2
  | [], _, _, q, hq => absurd hq List.not_mem_nil
  | a :: t, lo, h, q, hq => by
    rcases List.mem_cons.mp hq with rfl | hq
    · exact h.1
    · exact rx_sub_all h.2 q hq
section RXD
variable {p : Program} {l : Launch} {e : Env} {R : Room} {s : State} {m : MethodId} {args : Array Value} {below : List Frame} {meth : Method} {c : Code} {O : Nat → Prop} {H0 : Heap} {cells slots : Nat} {Q : State → Prop} {nL : Nat} {Φ : Heap → Prop} {lo : List (Nat × Value)} {rest st : List Value} {pc jpc : Nat}
/-- a memory gets a name -/
theorem rx_nm {G : rGT} {σ : rMem} (k : ∀ μ : rMem, μ = σ → rx_X p l e R s m args below meth c O H0 cells slots Q nL (rx_m G μ) pc lo st) : rx_X p l e R s m args below meth c O H0 cells slots Q nL (rx_m G σ) pc lo st := k σ rfl
/-- arms that meet: the walk behind them once -/
theorem rx_cut1 {v : Int32} {w : Value} (h : rx_X p l e R s m args below meth c O H0 cells slots Q nL Φ jpc lo (.int v :: rest) → rx_X p l e R s m args below meth c O H0 cells slots Q nL Φ pc lo (w :: rest)) (k : rx_X p l e R s m args below meth c O H0 cells slots Q nL Φ jpc lo (.int v :: rest)) : rx_X p l e R s m args below meth c O H0 cells slots Q nL Φ pc lo (w :: rest) := h k
theorem rx_cut2 {v : Int32} {w z : Value} (h : rx_X p l e R s m args below meth c O H0 cells slots Q nL Φ jpc lo (.int v :: rest) → rx_X p l e R s m args below meth c O H0 cells slots Q nL Φ pc lo (w :: z :: rest)) (k : rx_X p l e R s m args below meth c O H0 cells slots Q nL Φ jpc lo (.int v :: rest)) : rx_X p l e R s m args below meth c O H0 cells slots Q nL Φ pc lo (w :: z :: rest) := h k
end RXD
