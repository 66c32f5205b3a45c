/-! the memory behind both makers -/
def s0_lf (x : Int32) : Int32 := if rv_Net_isWithin x 6 60 = 0 then 20 else x
def s0_lm (y : Int32) : Int32 := if rv_Net_isWithin y 6 60 = 0 then 30 else y
def s0_pl (z : Int32) : Int32 := if z = 1 then 1 else 2
def s0_mob (a lf : Int32) (k : Nat) : Int32 := if k = 0 then a else if k = 1 then lf else if k = 7 then 2147483647 else if k = 8 then (-1) else 0
def s0_two (a c : Int32) (k : Nat) : Int32 := if k = 0 then a else if k = 1 then c else 0
def s0_mo (x y z : Int32) (k : Nat) : Int32 := if k = 0 then (if x < 6 then 20 else (if 60 < x then 20 else x)) else if k = 1 then (if y < 6 then 30 else (if 60 < y then 30 else y)) else if k = 2 then (if z = 1 then 1 else 2) else 0
def rx_s0 (x y z : Int32) : rMem := fun i k => if i = 2 then nI (k + 1) else if i = 46 then s0_mob 0 (s0_lf x) k else if i = 47 then s0_mob 1 (s0_lf x) k else if i = 48 then s0_two (s0_lm y) 0 k else if i = 54 then s0_two 1 (s0_pl z) k else if i = 58 then s0_two 2 (s0_pl z) k else if i = 62 then s0_two 3 (s0_pl z) k else if i = 71 then s0_mo x y z k else if i = 78 then s0_two 2147483647 2147483647 k else if i = 79 then s0_two (-1) (-1) k else 0
theorem rx_s0_SI (x y z : Int32) : rx_SI (rx_s0 x y z) := by
  have a : 0 ≤ (0 : Int32).toInt ∧ (0 : Int32).toInt ≤ 40 := by decide
  have q : (0 : Int32).toInt ≤ 200 := by decide
  refine ⟨a, fun k hk => ?_, a, fun k hk => ⟨q, q, q, q⟩⟩
  show 1 ≤ (nI (k + 1)).toInt ∧ (nI (k + 1)).toInt ≤ 41
  rw [nI_toInt (by omega)]
  omega
def rz_same (u v : va_E) : Prop := u = v ∨ (∃ (cA : ClassId) (n : Nat) (f g : Nat → Int32), u = .inl (cA, n, .inl f) ∧ v = .inl (cA, n, .inl g) ∧ ∀ k, k < n → f k = g k) ∨ ∃ (cA : ClassId) (n : Nat) (f g : Nat → Option Nat), u = .inl (cA, n, .inr (.inr (.inr (.inr f)))) ∧ v = .inl (cA, n, .inr (.inr (.inr (.inr g)))) ∧ ∀ k, k < n → f k = g k
theorem arrV_ext {cA : ClassId} {n : Nat} {f g : Nat → Value} (h : ∀ k, k < n → f k = g k) : arrV cA n f = arrV cA n g := by
  unfold arrV
  have e : (Array.ofFn (n := n) fun j => f j.val) = Array.ofFn (n := n) fun j => g j.val := by
    congr 1
    funext j
    exact h j.val j.isLt
  rw [e]
theorem rz_at_same {D : va_G} {cl : List vw_C} {q : Nat} {u v : va_E} {H : Heap} (h : rz_same u v) (hu : va_at D cl (q, u) H) : va_at D cl (q, v) H := by
  rcases h with h | ⟨cA, n, f, g, h1, h2, h3⟩ | ⟨cA, n, f, g, h1, h2, h3⟩
  · rw [← h]; exact hu
  · subst h1 h2
    show H[q]? = some (vp_cell _ _)
    have hu : H[q]? = some (vp_cell _ _) := hu
    rw [hu, vp_cell_i, vp_cell_i, arrV_ext (fun k hk => by rw [h3 k hk])]
  · subst h1 h2
    show H[q]? = some (vp_cell _ _)
    have hu : H[q]? = some (vp_cell _ _) := hu
    rw [hu, vp_cell_q, vp_cell_q, arrV_ext (fun k hk => by rw [h3 k hk])]
theorem rz_fin {D : va_G} {b : Nat} {ca : Nat → ClassId} {F : Nat → va_E} {σ : rMem} {H : Heap} (h : ∀ i, i < 96 → rz_same (F i) (rx_E (fun i => b + i) ca i (σ i))) (hP : rz_m D b 96 F H) (hI : rx_SI σ) : rx_m (rx_fin D b ca) σ H := by
  refine ⟨fun k q hk => ?_, hI⟩
  have hk1 : k < 96 := by
    have := (List.getElem?_eq_some_iff.mp hk).1
    simpa [rx_w, rx_wd, rx_fin] using this
  have h2 : (rx_w (rx_fin D b ca) σ)[k]? = some (b + k, rx_E (fun i => b + i) ca k (σ k)) := rx_at (ad := fun i => b + i) (E := rx_E (fun i => b + i) ca) (n := 96) hk1
  rw [h2] at hk
  cases hk
  exact rz_at_same (h k hk1) (hP.1 k _ (rz_at hk1))
def fz_all (b : Nat) (ca : Nat → ClassId) (x y z : Int32) : Nat → va_E := fz_Mod_71 b ca (va_up (fz_Net_0 b ca (va_up (fun _ => .inr (0, [])) 0 (.inr (0, [.null, .null, .null, .null, .null, .null]))) x y z) 71 (.inr (7, [.int 0, .int 0, .int 0, .int 0, .int 0, .null, .null, .null, .null, .null, .null, .null, .null, .null, .null, .null, .null, .null, .null, .null, .null, .null, .null, .null, .null, .null, .null, .null, .null]))) x y z
theorem se_0 (b : Nat) (ca : Nat → ClassId) (x y z : Int32) : rz_same (fz_all b ca x y z 0) (rx_E (fun i => b + i) ca 0 (rx_s0 x y z 0)) := Or.inl rfl
theorem se_1 (b : Nat) (ca : Nat → ClassId) (x y z : Int32) : rz_same (fz_all b ca x y z 1) (rx_E (fun i => b + i) ca 1 (rx_s0 x y z 1)) := Or.inl rfl
theorem se_2 (b : Nat) (ca : Nat → ClassId) (x y z : Int32) : rz_same (fz_all b ca x y z 2) (rx_E (fun i => b + i) ca 2 (rx_s0 x y z 2)) := Or.inr (Or.inr ⟨_, _, _, _, rfl, rfl, fun k hk => by
    show fw_rows b 41 k = some (b + (2 + (nI (k + 1)).toNatClampNeg))
    unfold fw_rows
    rw [if_pos hk, nI_clamp (by omega), show 2 + (k + 1) = 3 + k by omega]⟩)
theorem se_3 (b : Nat) (ca : Nat → ClassId) (x y z : Int32) : rz_same (fz_all b ca x y z 3) (rx_E (fun i => b + i) ca 3 (rx_s0 x y z 3)) := Or.inl rfl
theorem se_4 (b : Nat) (ca : Nat → ClassId) (x y z : Int32) : rz_same (fz_all b ca x y z 4) (rx_E (fun i => b + i) ca 4 (rx_s0 x y z 4)) := Or.inl rfl
theorem se_5 (b : Nat) (ca : Nat → ClassId) (x y z : Int32) : rz_same (fz_all b ca x y z 5) (rx_E (fun i => b + i) ca 5 (rx_s0 x y z 5)) := Or.inl rfl
theorem se_6 (b : Nat) (ca : Nat → ClassId) (x y z : Int32) : rz_same (fz_all b ca x y z 6) (rx_E (fun i => b + i) ca 6 (rx_s0 x y z 6)) := Or.inl rfl
theorem se_7 (b : Nat) (ca : Nat → ClassId) (x y z : Int32) : rz_same (fz_all b ca x y z 7) (rx_E (fun i => b + i) ca 7 (rx_s0 x y z 7)) := Or.inl rfl
theorem se_8 (b : Nat) (ca : Nat → ClassId) (x y z : Int32) : rz_same (fz_all b ca x y z 8) (rx_E (fun i => b + i) ca 8 (rx_s0 x y z 8)) := Or.inl rfl
theorem se_9 (b : Nat) (ca : Nat → ClassId) (x y z : Int32) : rz_same (fz_all b ca x y z 9) (rx_E (fun i => b + i) ca 9 (rx_s0 x y z 9)) := Or.inl rfl
theorem se_10 (b : Nat) (ca : Nat → ClassId) (x y z : Int32) : rz_same (fz_all b ca x y z 10) (rx_E (fun i => b + i) ca 10 (rx_s0 x y z 10)) := Or.inl rfl
theorem se_11 (b : Nat) (ca : Nat → ClassId) (x y z : Int32) : rz_same (fz_all b ca x y z 11) (rx_E (fun i => b + i) ca 11 (rx_s0 x y z 11)) := Or.inl rfl
theorem se_12 (b : Nat) (ca : Nat → ClassId) (x y z : Int32) : rz_same (fz_all b ca x y z 12) (rx_E (fun i => b + i) ca 12 (rx_s0 x y z 12)) := Or.inl rfl
theorem se_13 (b : Nat) (ca : Nat → ClassId) (x y z : Int32) : rz_same (fz_all b ca x y z 13) (rx_E (fun i => b + i) ca 13 (rx_s0 x y z 13)) := Or.inl rfl
theorem se_14 (b : Nat) (ca : Nat → ClassId) (x y z : Int32) : rz_same (fz_all b ca x y z 14) (rx_E (fun i => b + i) ca 14 (rx_s0 x y z 14)) := Or.inl rfl
theorem se_15 (b : Nat) (ca : Nat → ClassId) (x y z : Int32) : rz_same (fz_all b ca x y z 15) (rx_E (fun i => b + i) ca 15 (rx_s0 x y z 15)) := Or.inl rfl
theorem se_16 (b : Nat) (ca : Nat → ClassId) (x y z : Int32) : rz_same (fz_all b ca x y z 16) (rx_E (fun i => b + i) ca 16 (rx_s0 x y z 16)) := Or.inl rfl
theorem se_17 (b : Nat) (ca : Nat → ClassId) (x y z : Int32) : rz_same (fz_all b ca x y z 17) (rx_E (fun i => b + i) ca 17 (rx_s0 x y z 17)) := Or.inl rfl
theorem se_18 (b : Nat) (ca : Nat → ClassId) (x y z : Int32) : rz_same (fz_all b ca x y z 18) (rx_E (fun i => b + i) ca 18 (rx_s0 x y z 18)) := Or.inl rfl
theorem se_19 (b : Nat) (ca : Nat → ClassId) (x y z : Int32) : rz_same (fz_all b ca x y z 19) (rx_E (fun i => b + i) ca 19 (rx_s0 x y z 19)) := Or.inl rfl
theorem se_20 (b : Nat) (ca : Nat → ClassId) (x y z : Int32) : rz_same (fz_all b ca x y z 20) (rx_E (fun i => b + i) ca 20 (rx_s0 x y z 20)) := Or.inl rfl
theorem se_21 (b : Nat) (ca : Nat → ClassId) (x y z : Int32) : rz_same (fz_all b ca x y z 21) (rx_E (fun i => b + i) ca 21 (rx_s0 x y z 21)) := Or.inl rfl
theorem se_22 (b : Nat) (ca : Nat → ClassId) (x y z : Int32) : rz_same (fz_all b ca x y z 22) (rx_E (fun i => b + i) ca 22 (rx_s0 x y z 22)) := Or.inl rfl
theorem se_23 (b : Nat) (ca : Nat → ClassId) (x y z : Int32) : rz_same (fz_all b ca x y z 23) (rx_E (fun i => b + i) ca 23 (rx_s0 x y z 23)) := Or.inl rfl
theorem se_24 (b : Nat) (ca : Nat → ClassId) (x y z : Int32) : rz_same (fz_all b ca x y z 24) (rx_E (fun i => b + i) ca 24 (rx_s0 x y z 24)) := Or.inl rfl
theorem se_25 (b : Nat) (ca : Nat → ClassId) (x y z : Int32) : rz_same (fz_all b ca x y z 25) (rx_E (fun i => b + i) ca 25 (rx_s0 x y z 25)) := Or.inl rfl
theorem se_26 (b : Nat) (ca : Nat → ClassId) (x y z : Int32) : rz_same (fz_all b ca x y z 26) (rx_E (fun i => b + i) ca 26 (rx_s0 x y z 26)) := Or.inl rfl
theorem se_27 (b : Nat) (ca : Nat → ClassId) (x y z : Int32) : rz_same (fz_all b ca x y z 27) (rx_E (fun i => b + i) ca 27 (rx_s0 x y z 27)) := Or.inl rfl
theorem se_28 (b : Nat) (ca : Nat → ClassId) (x y z : Int32) : rz_same (fz_all b ca x y z 28) (rx_E (fun i => b + i) ca 28 (rx_s0 x y z 28)) := Or.inl rfl
theorem se_29 (b : Nat) (ca : Nat → ClassId) (x y z : Int32) : rz_same (fz_all b ca x y z 29) (rx_E (fun i => b + i) ca 29 (rx_s0 x y z 29)) := Or.inl rfl
theorem se_30 (b : Nat) (ca : Nat → ClassId) (x y z : Int32) : rz_same (fz_all b ca x y z 30) (rx_E (fun i => b + i) ca 30 (rx_s0 x y z 30)) := Or.inl rfl
theorem se_31 (b : Nat) (ca : Nat → ClassId) (x y z : Int32) : rz_same (fz_all b ca x y z 31) (rx_E (fun i => b + i) ca 31 (rx_s0 x y z 31)) := Or.inl rfl
theorem se_32 (b : Nat) (ca : Nat → ClassId) (x y z : Int32) : rz_same (fz_all b ca x y z 32) (rx_E (fun i => b + i) ca 32 (rx_s0 x y z 32)) := Or.inl rfl
theorem se_33 (b : Nat) (ca : Nat → ClassId) (x y z : Int32) : rz_same (fz_all b ca x y z 33) (rx_E (fun i => b + i) ca 33 (rx_s0 x y z 33)) := Or.inl rfl
theorem se_34 (b : Nat) (ca : Nat → ClassId) (x y z : Int32) : rz_same (fz_all b ca x y z 34) (rx_E (fun i => b + i) ca 34 (rx_s0 x y z 34)) := Or.inl rfl
theorem se_35 (b : Nat) (ca : Nat → ClassId) (x y z : Int32) : rz_same (fz_all b ca x y z 35) (rx_E (fun i => b + i) ca 35 (rx_s0 x y z 35)) := Or.inl rfl
theorem se_36 (b : Nat) (ca : Nat → ClassId) (x y z : Int32) : rz_same (fz_all b ca x y z 36) (rx_E (fun i => b + i) ca 36 (rx_s0 x y z 36)) := Or.inl rfl
theorem se_37 (b : Nat) (ca : Nat → ClassId) (x y z : Int32) : rz_same (fz_all b ca x y z 37) (rx_E (fun i => b + i) ca 37 (rx_s0 x y z 37)) := Or.inl rfl
theorem se_38 (b : Nat) (ca : Nat → ClassId) (x y z : Int32) : rz_same (fz_all b ca x y z 38) (rx_E (fun i => b + i) ca 38 (rx_s0 x y z 38)) := Or.inl rfl
theorem se_39 (b : Nat) (ca : Nat → ClassId) (x y z : Int32) : rz_same (fz_all b ca x y z 39) (rx_E (fun i => b + i) ca 39 (rx_s0 x y z 39)) := Or.inl rfl
theorem se_40 (b : Nat) (ca : Nat → ClassId) (x y z : Int32) : rz_same (fz_all b ca x y z 40) (rx_E (fun i => b + i) ca 40 (rx_s0 x y z 40)) := Or.inl rfl
theorem se_41 (b : Nat) (ca : Nat → ClassId) (x y z : Int32) : rz_same (fz_all b ca x y z 41) (rx_E (fun i => b + i) ca 41 (rx_s0 x y z 41)) := Or.inl rfl
theorem se_42 (b : Nat) (ca : Nat → ClassId) (x y z : Int32) : rz_same (fz_all b ca x y z 42) (rx_E (fun i => b + i) ca 42 (rx_s0 x y z 42)) := Or.inl rfl
theorem se_43 (b : Nat) (ca : Nat → ClassId) (x y z : Int32) : rz_same (fz_all b ca x y z 43) (rx_E (fun i => b + i) ca 43 (rx_s0 x y z 43)) := Or.inl rfl
theorem se_44 (b : Nat) (ca : Nat → ClassId) (x y z : Int32) : rz_same (fz_all b ca x y z 44) (rx_E (fun i => b + i) ca 44 (rx_s0 x y z 44)) := Or.inl rfl
theorem se_45 (b : Nat) (ca : Nat → ClassId) (x y z : Int32) : rz_same (fz_all b ca x y z 45) (rx_E (fun i => b + i) ca 45 (rx_s0 x y z 45)) := Or.inr (Or.inr ⟨_, _, _, _, rfl, rfl, fun k hk => by
    match k, hk with
    | 0, _ => rfl
    | 1, _ => rfl
    | k + 2, hk => omega⟩)
theorem se_46 (b : Nat) (ca : Nat → ClassId) (x y z : Int32) : rz_same (fz_all b ca x y z 46) (rx_E (fun i => b + i) ca 46 (rx_s0 x y z 46)) := Or.inl rfl
theorem se_47 (b : Nat) (ca : Nat → ClassId) (x y z : Int32) : rz_same (fz_all b ca x y z 47) (rx_E (fun i => b + i) ca 47 (rx_s0 x y z 47)) := Or.inl rfl
theorem se_48 (b : Nat) (ca : Nat → ClassId) (x y z : Int32) : rz_same (fz_all b ca x y z 48) (rx_E (fun i => b + i) ca 48 (rx_s0 x y z 48)) := Or.inl rfl
theorem se_49 (b : Nat) (ca : Nat → ClassId) (x y z : Int32) : rz_same (fz_all b ca x y z 49) (rx_E (fun i => b + i) ca 49 (rx_s0 x y z 49)) := Or.inl rfl
theorem se_50 (b : Nat) (ca : Nat → ClassId) (x y z : Int32) : rz_same (fz_all b ca x y z 50) (rx_E (fun i => b + i) ca 50 (rx_s0 x y z 50)) := Or.inl rfl
theorem se_51 (b : Nat) (ca : Nat → ClassId) (x y z : Int32) : rz_same (fz_all b ca x y z 51) (rx_E (fun i => b + i) ca 51 (rx_s0 x y z 51)) := Or.inl rfl
theorem se_52 (b : Nat) (ca : Nat → ClassId) (x y z : Int32) : rz_same (fz_all b ca x y z 52) (rx_E (fun i => b + i) ca 52 (rx_s0 x y z 52)) := Or.inl rfl
theorem se_53 (b : Nat) (ca : Nat → ClassId) (x y z : Int32) : rz_same (fz_all b ca x y z 53) (rx_E (fun i => b + i) ca 53 (rx_s0 x y z 53)) := Or.inr (Or.inr ⟨_, _, _, _, rfl, rfl, fun k hk => by
    match k, hk with
    | 0, _ => rfl
    | 1, _ => rfl
    | 2, _ => rfl
    | k + 3, hk => omega⟩)
theorem se_54 (b : Nat) (ca : Nat → ClassId) (x y z : Int32) : rz_same (fz_all b ca x y z 54) (rx_E (fun i => b + i) ca 54 (rx_s0 x y z 54)) := Or.inl rfl
theorem se_55 (b : Nat) (ca : Nat → ClassId) (x y z : Int32) : rz_same (fz_all b ca x y z 55) (rx_E (fun i => b + i) ca 55 (rx_s0 x y z 55)) := Or.inl rfl
theorem se_56 (b : Nat) (ca : Nat → ClassId) (x y z : Int32) : rz_same (fz_all b ca x y z 56) (rx_E (fun i => b + i) ca 56 (rx_s0 x y z 56)) := Or.inl rfl
theorem se_57 (b : Nat) (ca : Nat → ClassId) (x y z : Int32) : rz_same (fz_all b ca x y z 57) (rx_E (fun i => b + i) ca 57 (rx_s0 x y z 57)) := Or.inl rfl
theorem se_58 (b : Nat) (ca : Nat → ClassId) (x y z : Int32) : rz_same (fz_all b ca x y z 58) (rx_E (fun i => b + i) ca 58 (rx_s0 x y z 58)) := Or.inl rfl
theorem se_59 (b : Nat) (ca : Nat → ClassId) (x y z : Int32) : rz_same (fz_all b ca x y z 59) (rx_E (fun i => b + i) ca 59 (rx_s0 x y z 59)) := Or.inl rfl
theorem se_60 (b : Nat) (ca : Nat → ClassId) (x y z : Int32) : rz_same (fz_all b ca x y z 60) (rx_E (fun i => b + i) ca 60 (rx_s0 x y z 60)) := Or.inl rfl
theorem se_61 (b : Nat) (ca : Nat → ClassId) (x y z : Int32) : rz_same (fz_all b ca x y z 61) (rx_E (fun i => b + i) ca 61 (rx_s0 x y z 61)) := Or.inl rfl
theorem se_62 (b : Nat) (ca : Nat → ClassId) (x y z : Int32) : rz_same (fz_all b ca x y z 62) (rx_E (fun i => b + i) ca 62 (rx_s0 x y z 62)) := Or.inl rfl
theorem se_63 (b : Nat) (ca : Nat → ClassId) (x y z : Int32) : rz_same (fz_all b ca x y z 63) (rx_E (fun i => b + i) ca 63 (rx_s0 x y z 63)) := Or.inl rfl
theorem se_64 (b : Nat) (ca : Nat → ClassId) (x y z : Int32) : rz_same (fz_all b ca x y z 64) (rx_E (fun i => b + i) ca 64 (rx_s0 x y z 64)) := Or.inl rfl
theorem se_65 (b : Nat) (ca : Nat → ClassId) (x y z : Int32) : rz_same (fz_all b ca x y z 65) (rx_E (fun i => b + i) ca 65 (rx_s0 x y z 65)) := Or.inl rfl
theorem se_66 (b : Nat) (ca : Nat → ClassId) (x y z : Int32) : rz_same (fz_all b ca x y z 66) (rx_E (fun i => b + i) ca 66 (rx_s0 x y z 66)) := Or.inl rfl
theorem se_67 (b : Nat) (ca : Nat → ClassId) (x y z : Int32) : rz_same (fz_all b ca x y z 67) (rx_E (fun i => b + i) ca 67 (rx_s0 x y z 67)) := Or.inl rfl
theorem se_68 (b : Nat) (ca : Nat → ClassId) (x y z : Int32) : rz_same (fz_all b ca x y z 68) (rx_E (fun i => b + i) ca 68 (rx_s0 x y z 68)) := Or.inl rfl
theorem se_69 (b : Nat) (ca : Nat → ClassId) (x y z : Int32) : rz_same (fz_all b ca x y z 69) (rx_E (fun i => b + i) ca 69 (rx_s0 x y z 69)) := Or.inl rfl
theorem se_70 (b : Nat) (ca : Nat → ClassId) (x y z : Int32) : rz_same (fz_all b ca x y z 70) (rx_E (fun i => b + i) ca 70 (rx_s0 x y z 70)) := Or.inl rfl
theorem se_71 (b : Nat) (ca : Nat → ClassId) (x y z : Int32) : rz_same (fz_all b ca x y z 71) (rx_E (fun i => b + i) ca 71 (rx_s0 x y z 71)) := Or.inl rfl
theorem se_72 (b : Nat) (ca : Nat → ClassId) (x y z : Int32) : rz_same (fz_all b ca x y z 72) (rx_E (fun i => b + i) ca 72 (rx_s0 x y z 72)) := Or.inl rfl
theorem se_73 (b : Nat) (ca : Nat → ClassId) (x y z : Int32) : rz_same (fz_all b ca x y z 73) (rx_E (fun i => b + i) ca 73 (rx_s0 x y z 73)) := Or.inl rfl
theorem se_74 (b : Nat) (ca : Nat → ClassId) (x y z : Int32) : rz_same (fz_all b ca x y z 74) (rx_E (fun i => b + i) ca 74 (rx_s0 x y z 74)) := Or.inl rfl
theorem se_75 (b : Nat) (ca : Nat → ClassId) (x y z : Int32) : rz_same (fz_all b ca x y z 75) (rx_E (fun i => b + i) ca 75 (rx_s0 x y z 75)) := Or.inl rfl
theorem se_76 (b : Nat) (ca : Nat → ClassId) (x y z : Int32) : rz_same (fz_all b ca x y z 76) (rx_E (fun i => b + i) ca 76 (rx_s0 x y z 76)) := Or.inl rfl
theorem se_77 (b : Nat) (ca : Nat → ClassId) (x y z : Int32) : rz_same (fz_all b ca x y z 77) (rx_E (fun i => b + i) ca 77 (rx_s0 x y z 77)) := Or.inl rfl
theorem se_78 (b : Nat) (ca : Nat → ClassId) (x y z : Int32) : rz_same (fz_all b ca x y z 78) (rx_E (fun i => b + i) ca 78 (rx_s0 x y z 78)) := Or.inr (Or.inl ⟨_, _, _, _, rfl, rfl, fun k hk => by
    match k, hk with
    | 0, _ => rfl
    | 1, _ => rfl
    | k + 2, hk => omega⟩)
theorem se_79 (b : Nat) (ca : Nat → ClassId) (x y z : Int32) : rz_same (fz_all b ca x y z 79) (rx_E (fun i => b + i) ca 79 (rx_s0 x y z 79)) := Or.inr (Or.inl ⟨_, _, _, _, rfl, rfl, fun k hk => by
    match k, hk with
    | 0, _ => rfl
    | 1, _ => rfl
    | k + 2, hk => omega⟩)
theorem se_80 (b : Nat) (ca : Nat → ClassId) (x y z : Int32) : rz_same (fz_all b ca x y z 80) (rx_E (fun i => b + i) ca 80 (rx_s0 x y z 80)) := Or.inl rfl
theorem se_81 (b : Nat) (ca : Nat → ClassId) (x y z : Int32) : rz_same (fz_all b ca x y z 81) (rx_E (fun i => b + i) ca 81 (rx_s0 x y z 81)) := Or.inl rfl
theorem se_82 (b : Nat) (ca : Nat → ClassId) (x y z : Int32) : rz_same (fz_all b ca x y z 82) (rx_E (fun i => b + i) ca 82 (rx_s0 x y z 82)) := Or.inl rfl
theorem se_83 (b : Nat) (ca : Nat → ClassId) (x y z : Int32) : rz_same (fz_all b ca x y z 83) (rx_E (fun i => b + i) ca 83 (rx_s0 x y z 83)) := Or.inl rfl
theorem se_84 (b : Nat) (ca : Nat → ClassId) (x y z : Int32) : rz_same (fz_all b ca x y z 84) (rx_E (fun i => b + i) ca 84 (rx_s0 x y z 84)) := Or.inl rfl
theorem se_85 (b : Nat) (ca : Nat → ClassId) (x y z : Int32) : rz_same (fz_all b ca x y z 85) (rx_E (fun i => b + i) ca 85 (rx_s0 x y z 85)) := Or.inl rfl
theorem se_86 (b : Nat) (ca : Nat → ClassId) (x y z : Int32) : rz_same (fz_all b ca x y z 86) (rx_E (fun i => b + i) ca 86 (rx_s0 x y z 86)) := Or.inl rfl
theorem se_87 (b : Nat) (ca : Nat → ClassId) (x y z : Int32) : rz_same (fz_all b ca x y z 87) (rx_E (fun i => b + i) ca 87 (rx_s0 x y z 87)) := Or.inl rfl
theorem se_88 (b : Nat) (ca : Nat → ClassId) (x y z : Int32) : rz_same (fz_all b ca x y z 88) (rx_E (fun i => b + i) ca 88 (rx_s0 x y z 88)) := Or.inl rfl
theorem se_89 (b : Nat) (ca : Nat → ClassId) (x y z : Int32) : rz_same (fz_all b ca x y z 89) (rx_E (fun i => b + i) ca 89 (rx_s0 x y z 89)) := Or.inl rfl
theorem se_90 (b : Nat) (ca : Nat → ClassId) (x y z : Int32) : rz_same (fz_all b ca x y z 90) (rx_E (fun i => b + i) ca 90 (rx_s0 x y z 90)) := Or.inl rfl
theorem se_91 (b : Nat) (ca : Nat → ClassId) (x y z : Int32) : rz_same (fz_all b ca x y z 91) (rx_E (fun i => b + i) ca 91 (rx_s0 x y z 91)) := Or.inl rfl
theorem se_92 (b : Nat) (ca : Nat → ClassId) (x y z : Int32) : rz_same (fz_all b ca x y z 92) (rx_E (fun i => b + i) ca 92 (rx_s0 x y z 92)) := Or.inl rfl
theorem se_93 (b : Nat) (ca : Nat → ClassId) (x y z : Int32) : rz_same (fz_all b ca x y z 93) (rx_E (fun i => b + i) ca 93 (rx_s0 x y z 93)) := Or.inl rfl
theorem se_94 (b : Nat) (ca : Nat → ClassId) (x y z : Int32) : rz_same (fz_all b ca x y z 94) (rx_E (fun i => b + i) ca 94 (rx_s0 x y z 94)) := Or.inl rfl
theorem se_95 (b : Nat) (ca : Nat → ClassId) (x y z : Int32) : rz_same (fz_all b ca x y z 95) (rx_E (fun i => b + i) ca 95 (rx_s0 x y z 95)) := Or.inl rfl
theorem se_all (b : Nat) (ca : Nat → ClassId) (x y z : Int32) : ∀ i, i < 96 → rz_same (fz_all b ca x y z i) (rx_E (fun i => b + i) ca i (rx_s0 x y z i)) := by
  intro i hi
  match i, hi with
  | 0, _ => exact se_0 b ca x y z
  | 1, _ => exact se_1 b ca x y z
  | 2, _ => exact se_2 b ca x y z
  | 3, _ => exact se_3 b ca x y z
  | 4, _ => exact se_4 b ca x y z
  | 5, _ => exact se_5 b ca x y z
  | 6, _ => exact se_6 b ca x y z
  | 7, _ => exact se_7 b ca x y z
  | 8, _ => exact se_8 b ca x y z
  | 9, _ => exact se_9 b ca x y z
  | 10, _ => exact se_10 b ca x y z
  | 11, _ => exact se_11 b ca x y z
  | 12, _ => exact se_12 b ca x y z
  | 13, _ => exact se_13 b ca x y z
  | 14, _ => exact se_14 b ca x y z
  | 15, _ => exact se_15 b ca x y z
  | 16, _ => exact se_16 b ca x y z
  | 17, _ => exact se_17 b ca x y z
  | 18, _ => exact se_18 b ca x y z
  | 19, _ => exact se_19 b ca x y z
  | 20, _ => exact se_20 b ca x y z
  | 21, _ => exact se_21 b ca x y z
  | 22, _ => exact se_22 b ca x y z
  | 23, _ => exact se_23 b ca x y z
  | 24, _ => exact se_24 b ca x y z
  | 25, _ => exact se_25 b ca x y z
  | 26, _ => exact se_26 b ca x y z
  | 27, _ => exact se_27 b ca x y z
  | 28, _ => exact se_28 b ca x y z
  | 29, _ => exact se_29 b ca x y z
  | 30, _ => exact se_30 b ca x y z
  | 31, _ => exact se_31 b ca x y z
  | 32, _ => exact se_32 b ca x y z
  | 33, _ => exact se_33 b ca x y z
  | 34, _ => exact se_34 b ca x y z
  | 35, _ => exact se_35 b ca x y z
  | 36, _ => exact se_36 b ca x y z
  | 37, _ => exact se_37 b ca x y z
  | 38, _ => exact se_38 b ca x y z
  | 39, _ => exact se_39 b ca x y z
  | 40, _ => exact se_40 b ca x y z
  | 41, _ => exact se_41 b ca x y z
  | 42, _ => exact se_42 b ca x y z
  | 43, _ => exact se_43 b ca x y z
  | 44, _ => exact se_44 b ca x y z
  | 45, _ => exact se_45 b ca x y z
  | 46, _ => exact se_46 b ca x y z
  | 47, _ => exact se_47 b ca x y z
  | 48, _ => exact se_48 b ca x y z
  | 49, _ => exact se_49 b ca x y z
  | 50, _ => exact se_50 b ca x y z
  | 51, _ => exact se_51 b ca x y z
  | 52, _ => exact se_52 b ca x y z
  | 53, _ => exact se_53 b ca x y z
  | 54, _ => exact se_54 b ca x y z
  | 55, _ => exact se_55 b ca x y z
  | 56, _ => exact se_56 b ca x y z
  | 57, _ => exact se_57 b ca x y z
  | 58, _ => exact se_58 b ca x y z
  | 59, _ => exact se_59 b ca x y z
  | 60, _ => exact se_60 b ca x y z
  | 61, _ => exact se_61 b ca x y z
  | 62, _ => exact se_62 b ca x y z
  | 63, _ => exact se_63 b ca x y z
  | 64, _ => exact se_64 b ca x y z
  | 65, _ => exact se_65 b ca x y z
  | 66, _ => exact se_66 b ca x y z
  | 67, _ => exact se_67 b ca x y z
  | 68, _ => exact se_68 b ca x y z
  | 69, _ => exact se_69 b ca x y z
  | 70, _ => exact se_70 b ca x y z
  | 71, _ => exact se_71 b ca x y z
  | 72, _ => exact se_72 b ca x y z
  | 73, _ => exact se_73 b ca x y z
  | 74, _ => exact se_74 b ca x y z
  | 75, _ => exact se_75 b ca x y z
  | 76, _ => exact se_76 b ca x y z
  | 77, _ => exact se_77 b ca x y z
  | 78, _ => exact se_78 b ca x y z
  | 79, _ => exact se_79 b ca x y z
  | 80, _ => exact se_80 b ca x y z
  | 81, _ => exact se_81 b ca x y z
  | 82, _ => exact se_82 b ca x y z
  | 83, _ => exact se_83 b ca x y z
  | 84, _ => exact se_84 b ca x y z
  | 85, _ => exact se_85 b ca x y z
  | 86, _ => exact se_86 b ca x y z
  | 87, _ => exact se_87 b ca x y z
  | 88, _ => exact se_88 b ca x y z
  | 89, _ => exact se_89 b ca x y z
  | 90, _ => exact se_90 b ca x y z
  | 91, _ => exact se_91 b ca x y z
  | 92, _ => exact se_92 b ca x y z
  | 93, _ => exact se_93 b ca x y z
  | 94, _ => exact se_94 b ca x y z
  | 95, _ => exact se_95 b ca x y z
  | i + 96, hi => omega
