theorem fr_send {σ : rMem} {c : Nat} {kd tg m nw nu co lt cd sl : Int32} (h1 : c ≠ 71) (h2 : c ≠ 72) : sp_Mod_send σ kd tg m nw nu co lt cd sl c = σ c := by
  unfold sp_Mod_send
  split
  · simp only [rx_wr_ne h1, rx_wr_ne h2]
  · rfl
def rs_Mod : Nat → rMem → Int32 → Int32 → Int32 → rMem
  | 0, σ, _, _, _ => σ
  | n + 1, σ, m, k, lt => if σ 93 m.toNatClampNeg < k ∨ lt = 0 then σ else rs_Mod n (sp_Mod_send σ 4 0 m 0 k 0 0 0 0) m (k + 1) lt
theorem lp_Mod_rs (l : Launch) (D : va_G) (b : Nat) (ca : Nat → ClassId) {m lt : Int32} (hm : rx_iM m) {p : Program} {e : Env} {s : State} {mm : MethodId} {args : Array Value} {below : List Frame} {meth : Method} {c : Code} {H0 : Heap} {Q : State → Prop} (C : rx_Cw p s mm args meth c R_Mod b_Mod_oneTick 4 none (rx_fin D b ca)) :
    ∀ (n : Nat) (σ : rMem) (k : Int32), ((σ 93 m.toNatClampNeg).toInt + 1 - k.toInt).toNat ≤ n →
      (∀ k' : Int32, rx_X p l e (rx_rm 4) s mm args below meth c (rg_O (rx_fin D b ca)) H0 0 0 Q 4 (rx_m (rx_fin D b ca) (rs_Mod n σ m k lt)) 161 [(3, .int k'), (2, .int lt), (1, .int m), (0, .ref (rg_A (rx_fin D b ca) 71))] []) →
      rx_X p l e (rx_rm 4) s mm args below meth c (rg_O (rx_fin D b ca)) H0 0 0 Q 4 (rx_m (rx_fin D b ca) σ) 128 [(3, .int k), (2, .int lt), (1, .int m), (0, .ref (rg_A (rx_fin D b ca) 71))] [] := by
  intro n
  induction n with
  | zero =>
    intro σ k hf kx
    refine it_Mod_rs l D b ca C hm (fun h => kx k) (fun h h2 => ?_)
    rw [rx_ltI] at h
    omega
  | succ n ih =>
    intro σ k hf kx
    refine rx_si (fun hI => ?_)
    refine it_Mod_rs l D b ca C hm (fun h => ?_) (fun h h2 => ?_)
    · have h3 := kx k
      rw [rs_Mod, if_pos h] at h3
      exact h3
    · refine ih _ _ ?_ (fun k' => ?_)
      · rw [fr_send (by omega) (by omega)]
        have h3 := hI.2.2.2 _ (rx_j2 hm)
        have h4 := rx_lo k
        rw [rx_ltI] at h
        rw [rx_addI (by rw [rx_I1]; omega) (by rw [rx_I1]; omega), rx_I1]
        omega
      · have h3 := kx k'
        rw [rs_Mod, if_neg (fun h4 => h4.elim h h2)] at h3
        exact h3
def or_Mod (m : Int32) (σ : rMem) : rMem := let m5 := rs_Mod ((σ 93 m.toNatClampNeg).toInt + 1 - Int32.toInt (σ 94 m.toNatClampNeg + 1)).toNat σ m (σ 94 m.toNatClampNeg + 1) (if (σ 93 m.toNatClampNeg) ≤ (σ 94 m.toNatClampNeg) then 0 else (if ((σ 71 3) - (σ 95 m.toNatClampNeg)) < 5 then 0 else 1) : Int32); rx_wr m5 95 m.toNatClampNeg (if (if (σ 93 m.toNatClampNeg) ≤ (σ 94 m.toNatClampNeg) then 0 else (if ((σ 71 3) - (σ 95 m.toNatClampNeg)) < 5 then 0 else 1) : Int32) = 0 then (m5 95 m.toNatClampNeg) else (m5 71 3) : Int32)

def sp_Mod_oneTick (σ : rMem)  : rMem := or_Mod 1 (or_Mod 0 (sp_Mod_tickMobile (sp_Mod_tickMobile (st_adv7 (st_adv6 (st_adv5 (st_adv4 (st_adv3 (st_adv2 (st_adv1 (st_adv0 (rx_wr σ 71 3 ((σ 71 3) + 1)))))))))) 0) 1))
set_option maxHeartbeats 4000000 in
set_option maxRecDepth 100000 in
theorem c_Mod_oneTick (l : Launch) (D : va_G) (b : Nat) (ca : Nat → ClassId) {σ : rMem}  : rx_C l (rx_fin D b ca) y_Mod_oneTick b_Mod_oneTick 4 none (rx_rm 4) [.ref (rg_A (rx_fin D b ca) 71)] σ none (sp_Mod_oneTick σ) := by
  refine rx_of (lo := [(0, .ref (rg_A (rx_fin D b ca) 71))]) (by decide) (rx_fin_D D b ca) rfl (Nat.le_of_ble_eq_true rfl) rfl ?_
  intro p e s mm below meth c C
  refine rx_aload_n C.1 (pc := 0) d_Mod_oneTick_0 rfl ?_
  refine rx_dup C.1 (pc := 1) d_Mod_oneTick_1 rfl ?_
  refine g_Mod_113 D b ca C (pc := 2) d_Mod_oneTick_2 ?_
  refine rx_iconst C.1 (v := 1) (pc := 5) d_Mod_oneTick_5 (by decide) ?_
  refine rx_iadd C.1 (pc := 6) d_Mod_oneTick_6 ?_
  refine p_Mod_113 D b ca C (pc := 7) d_Mod_oneTick_7 ?_
  refine rx_nm (fun m1 e1 => ?_)
  refine rx_iconst C.1 (v := 0) (pc := 10) d_Mod_oneTick_10 (by decide) ?_
  refine rx_istore_n C.1 (pc := 11) d_Mod_oneTick_11 (by decide) ?_
  refine rx_loc C.1 (rx_sub_all (lo' := [(1, .int 0), (0, .ref (rg_A (rx_fin D b ca) 71))]) ⟨rfl, rfl, trivial⟩) ?_
  refine it_Mod_adv0 l D b ca C ?_
  refine it_Mod_adv1 l D b ca C ?_
  refine it_Mod_adv2 l D b ca C ?_
  refine it_Mod_adv3 l D b ca C ?_
  refine it_Mod_adv4 l D b ca C ?_
  refine it_Mod_adv5 l D b ca C ?_
  refine it_Mod_adv6 l D b ca C ?_
  refine it_Mod_adv7 l D b ca C ?_
  refine rx_iload_n C.1 (pc := 12) d_Mod_oneTick_12 rfl ?_
  refine rx_bipush C.1 (v := 8) (pc := 13) d_Mod_oneTick_13 (by decide) ?_
  refine rx_icmp_ge C.1 (pc := 15) d_Mod_oneTick_15 (tgt := 66) rfl (fun _ => ?_) (fun h9 => absurd (by decide) h9)
  refine rx_nm (fun m2 e2 => ?_)
  refine rx_aload_n C.1 (pc := 66) d_Mod_oneTick_66 rfl ?_
  refine rx_iconst C.1 (v := 0) (pc := 67) d_Mod_oneTick_67 (by decide) ?_
  refine q_Mod_162 D b ca C (pc := 68) d_Mod_oneTick_68 (c_Mod_tickMobile l D b ca (by first | assumption | exact rx_iM0 | exact rx_iM1 | (constructor <;> omega))) ⟨Nat.le_of_ble_eq_true rfl, Nat.le_of_ble_eq_true rfl⟩ ⟨Nat.zero_le _, Nat.zero_le _⟩ (Nat.le_of_ble_eq_true rfl) ?_
  refine rx_nm (fun m3 e3 => ?_)
  refine rx_aload_n C.1 (pc := 71) d_Mod_oneTick_71 rfl ?_
  refine rx_iconst C.1 (v := 1) (pc := 72) d_Mod_oneTick_72 (by decide) ?_
  refine q_Mod_162 D b ca C (pc := 73) d_Mod_oneTick_73 (c_Mod_tickMobile l D b ca (by first | assumption | exact rx_iM0 | exact rx_iM1 | (constructor <;> omega))) ⟨Nat.le_of_ble_eq_true rfl, Nat.le_of_ble_eq_true rfl⟩ ⟨Nat.zero_le _, Nat.zero_le _⟩ (Nat.le_of_ble_eq_true rfl) ?_
  refine rx_nm (fun m4 e4 => ?_)
  refine rx_iconst C.1 (v := 0) (pc := 76) d_Mod_oneTick_76 (by decide) ?_
  refine rx_istore_n C.1 (pc := 77) d_Mod_oneTick_77 (by decide) ?_
  refine rx_iload_n C.1 (pc := 78) d_Mod_oneTick_78 rfl ?_
  refine rx_iconst C.1 (v := 2) (pc := 79) d_Mod_oneTick_79 (by decide) ?_
  refine rx_icmp_ge C.1 (pc := 80) d_Mod_oneTick_80 (tgt := 190) rfl (fun h9 => absurd h9 (by decide)) (fun _ => ?_)
  refine rx_aload_n C.1 (pc := 83) d_Mod_oneTick_83 rfl ?_
  refine g_Mod_73 D b ca C (pc := 84) d_Mod_oneTick_84 ?_
  refine rx_iload_n C.1 (pc := 87) d_Mod_oneTick_87 rfl ?_
  refine rx_iald C (i := 93) (n := 2) (pc := 88) d_Mod_oneTick_88 (rx_lt (by decide)) rfl (by first | assumption | exact rx_in2 (by assumption) | exact rx_v02 | exact rx_v12 | exact vp_in_iff.mpr (by decide) | exact fa_in (by assumption) (by assumption) | exact fa_in (by assumption) rx_iM0 | exact fa_in (by assumption) rx_iM1) ?_
  refine rx_aload_n C.1 (pc := 89) d_Mod_oneTick_89 rfl ?_
  refine g_Mod_76 D b ca C (pc := 90) d_Mod_oneTick_90 ?_
  refine rx_iload_n C.1 (pc := 93) d_Mod_oneTick_93 rfl ?_
  refine rx_iald C (i := 94) (n := 2) (pc := 94) d_Mod_oneTick_94 (rx_lt (by decide)) rfl (by first | assumption | exact rx_in2 (by assumption) | exact rx_v02 | exact rx_v12 | exact vp_in_iff.mpr (by decide) | exact fa_in (by assumption) (by assumption) | exact fa_in (by assumption) rx_iM0 | exact fa_in (by assumption) rx_iM1) ?_
  refine rx_cut2 (jpc := 118) (v := if (m4 93 (Int32.toNatClampNeg 0)) ≤ (m4 94 (Int32.toNatClampNeg 0)) then 0 else (if ((m4 71 3) - (m4 95 (Int32.toNatClampNeg 0))) < 5 then 0 else 1)) (fun hk => ?_) ?_
  ·
    refine rx_icmp_le C.1 (pc := 95) d_Mod_oneTick_95 (tgt := 117) rfl (fun h1 => ?_) (fun h1 => ?_)
    ·
      refine rx_iconst C.1 (v := 0) (pc := 117) d_Mod_oneTick_117 (by decide) ?_
      rw [if_pos h1] at hk
      exact hk
    ·
      refine rx_aload_n C.1 (pc := 98) d_Mod_oneTick_98 rfl ?_
      refine g_Mod_113 D b ca C (pc := 99) d_Mod_oneTick_99 ?_
      refine rx_aload_n C.1 (pc := 102) d_Mod_oneTick_102 rfl ?_
      refine g_Mod_79 D b ca C (pc := 103) d_Mod_oneTick_103 ?_
      refine rx_iload_n C.1 (pc := 106) d_Mod_oneTick_106 rfl ?_
      refine rx_iald C (i := 95) (n := 2) (pc := 107) d_Mod_oneTick_107 (rx_lt (by decide)) rfl (by first | assumption | exact rx_in2 (by assumption) | exact rx_v02 | exact rx_v12 | exact vp_in_iff.mpr (by decide) | exact fa_in (by assumption) (by assumption) | exact fa_in (by assumption) rx_iM0 | exact fa_in (by assumption) rx_iM1) ?_
      refine rx_isub C.1 (pc := 108) d_Mod_oneTick_108 ?_
      refine rx_iconst C.1 (v := 5) (pc := 109) d_Mod_oneTick_109 (by decide) ?_
      refine rx_icmp_lt C.1 (pc := 110) d_Mod_oneTick_110 (tgt := 117) rfl (fun h2 => ?_) (fun h2 => ?_)
      ·
        refine rx_iconst C.1 (v := 0) (pc := 117) d_Mod_oneTick_117 (by decide) ?_
        rw [if_neg h1, if_pos h2] at hk
        exact hk
      ·
        refine rx_iconst C.1 (v := 1) (pc := 113) d_Mod_oneTick_113 (by decide) ?_
        refine rx_goto C.1 (pc := 114) d_Mod_oneTick_114 (tgt := 118) rfl ?_
        rw [if_neg h1, if_neg h2] at hk
        exact hk
  refine rx_istore_n C.1 (pc := 118) d_Mod_oneTick_118 (by decide) ?_
  refine rx_aload_n C.1 (pc := 119) d_Mod_oneTick_119 rfl ?_
  refine g_Mod_76 D b ca C (pc := 120) d_Mod_oneTick_120 ?_
  refine rx_iload_n C.1 (pc := 123) d_Mod_oneTick_123 rfl ?_
  refine rx_iald C (i := 94) (n := 2) (pc := 124) d_Mod_oneTick_124 (rx_lt (by decide)) rfl (by first | assumption | exact rx_in2 (by assumption) | exact rx_v02 | exact rx_v12 | exact vp_in_iff.mpr (by decide) | exact fa_in (by assumption) (by assumption) | exact fa_in (by assumption) rx_iM0 | exact fa_in (by assumption) rx_iM1) ?_
  refine rx_iconst C.1 (v := 1) (pc := 125) d_Mod_oneTick_125 (by decide) ?_
  refine rx_iadd C.1 (pc := 126) d_Mod_oneTick_126 ?_
  refine rx_istore_n C.1 (pc := 127) d_Mod_oneTick_127 (by decide) ?_
  refine rx_loc C.1 (rx_sub_all (lo' := [(3, .int ((m4 94 (Int32.toNatClampNeg 0)) + 1)), (2, .int (if (m4 93 (Int32.toNatClampNeg 0)) ≤ (m4 94 (Int32.toNatClampNeg 0)) then 0 else (if ((m4 71 3) - (m4 95 (Int32.toNatClampNeg 0))) < 5 then 0 else 1) : Int32)), (1, .int 0), (0, .ref (rg_A (rx_fin D b ca) 71))]) ⟨rfl, rfl, rfl, rfl, trivial⟩) ?_
  refine lp_Mod_rs l D b ca rx_iM0 C _ _ _ (Nat.le_refl _) (fun k' => ?_)
  refine rx_nm (fun m5 e5 => ?_)
  refine rx_aload_n C.1 (pc := 161) d_Mod_oneTick_161 rfl ?_
  refine g_Mod_79 D b ca C (pc := 162) d_Mod_oneTick_162 ?_
  refine rx_iload_n C.1 (pc := 165) d_Mod_oneTick_165 rfl ?_
  refine rx_iload_n C.1 (pc := 166) d_Mod_oneTick_166 rfl ?_
  refine rx_cut1 (jpc := 183) (v := if (if (m4 93 (Int32.toNatClampNeg 0)) ≤ (m4 94 (Int32.toNatClampNeg 0)) then 0 else (if ((m4 71 3) - (m4 95 (Int32.toNatClampNeg 0))) < 5 then 0 else 1) : Int32) = 0 then (m5 95 (Int32.toNatClampNeg 0)) else (m5 71 3)) (fun hk => ?_) ?_
  ·
    refine rx_if_eq C.1 (pc := 167) d_Mod_oneTick_167 (tgt := 177) rfl (fun h3 => ?_) (fun h3 => ?_)
    ·
      refine rx_aload_n C.1 (pc := 177) d_Mod_oneTick_177 rfl ?_
      refine g_Mod_79 D b ca C (pc := 178) d_Mod_oneTick_178 ?_
      refine rx_iload_n C.1 (pc := 181) d_Mod_oneTick_181 rfl ?_
      refine rx_iald C (i := 95) (n := 2) (pc := 182) d_Mod_oneTick_182 (rx_lt (by decide)) rfl (by first | assumption | exact rx_in2 (by assumption) | exact rx_v02 | exact rx_v12 | exact vp_in_iff.mpr (by decide) | exact fa_in (by assumption) (by assumption) | exact fa_in (by assumption) rx_iM0 | exact fa_in (by assumption) rx_iM1) ?_
      rw [if_pos h3] at hk
      exact hk
    ·
      refine rx_aload_n C.1 (pc := 170) d_Mod_oneTick_170 rfl ?_
      refine g_Mod_113 D b ca C (pc := 171) d_Mod_oneTick_171 ?_
      refine rx_goto C.1 (pc := 174) d_Mod_oneTick_174 (tgt := 183) rfl ?_
      rw [if_neg h3] at hk
      exact hk
  refine rx_iast C (i := 95) (n := 2) (pc := 183) d_Mod_oneTick_183 (rx_lt (by decide)) (fun _ => rfl) (by first | assumption | exact rx_in2 (by assumption) | exact rx_v02 | exact rx_v12 | exact vp_in_iff.mpr (by decide) | exact fa_in (by assumption) (by assumption) | exact fa_in (by assumption) rx_iM0 | exact fa_in (by assumption) rx_iM1) (rx_SI_wr (by omega)) ?_
  refine rx_nm (fun m6 e6 => ?_)
  have f6 : m6 = or_Mod 0 m4 := by subst e6 e5; unfold or_Mod; rfl
  refine rx_iinc C.1 (v := 1) (pc := 184) d_Mod_oneTick_184 rfl (by decide) (by decide) ?_
  refine rx_goto C.1 (pc := 187) d_Mod_oneTick_187 (tgt := 78) rfl ?_
  refine rx_iload_n C.1 (pc := 78) d_Mod_oneTick_78 rfl ?_
  refine rx_iconst C.1 (v := 2) (pc := 79) d_Mod_oneTick_79 (by decide) ?_
  refine rx_icmp_ge C.1 (pc := 80) d_Mod_oneTick_80 (tgt := 190) rfl (fun h9 => absurd h9 (by decide)) (fun _ => ?_)
  refine rx_aload_n C.1 (pc := 83) d_Mod_oneTick_83 rfl ?_
  refine g_Mod_73 D b ca C (pc := 84) d_Mod_oneTick_84 ?_
  refine rx_iload_n C.1 (pc := 87) d_Mod_oneTick_87 rfl ?_
  refine rx_iald C (i := 93) (n := 2) (pc := 88) d_Mod_oneTick_88 (rx_lt (by decide)) rfl (by first | assumption | exact rx_in2 (by assumption) | exact rx_v02 | exact rx_v12 | exact vp_in_iff.mpr (by decide) | exact fa_in (by assumption) (by assumption) | exact fa_in (by assumption) rx_iM0 | exact fa_in (by assumption) rx_iM1) ?_
  refine rx_aload_n C.1 (pc := 89) d_Mod_oneTick_89 rfl ?_
  refine g_Mod_76 D b ca C (pc := 90) d_Mod_oneTick_90 ?_
  refine rx_iload_n C.1 (pc := 93) d_Mod_oneTick_93 rfl ?_
  refine rx_iald C (i := 94) (n := 2) (pc := 94) d_Mod_oneTick_94 (rx_lt (by decide)) rfl (by first | assumption | exact rx_in2 (by assumption) | exact rx_v02 | exact rx_v12 | exact vp_in_iff.mpr (by decide) | exact fa_in (by assumption) (by assumption) | exact fa_in (by assumption) rx_iM0 | exact fa_in (by assumption) rx_iM1) ?_
  refine rx_cut2 (jpc := 118) (v := if (m6 93 (Int32.toNatClampNeg 1)) ≤ (m6 94 (Int32.toNatClampNeg 1)) then 0 else (if ((m6 71 3) - (m6 95 (Int32.toNatClampNeg 1))) < 5 then 0 else 1)) (fun hk => ?_) ?_
  ·
    refine rx_icmp_le C.1 (pc := 95) d_Mod_oneTick_95 (tgt := 117) rfl (fun h4 => ?_) (fun h4 => ?_)
    ·
      refine rx_iconst C.1 (v := 0) (pc := 117) d_Mod_oneTick_117 (by decide) ?_
      rw [if_pos h4] at hk
      exact hk
    ·
      refine rx_aload_n C.1 (pc := 98) d_Mod_oneTick_98 rfl ?_
      refine g_Mod_113 D b ca C (pc := 99) d_Mod_oneTick_99 ?_
      refine rx_aload_n C.1 (pc := 102) d_Mod_oneTick_102 rfl ?_
      refine g_Mod_79 D b ca C (pc := 103) d_Mod_oneTick_103 ?_
      refine rx_iload_n C.1 (pc := 106) d_Mod_oneTick_106 rfl ?_
      refine rx_iald C (i := 95) (n := 2) (pc := 107) d_Mod_oneTick_107 (rx_lt (by decide)) rfl (by first | assumption | exact rx_in2 (by assumption) | exact rx_v02 | exact rx_v12 | exact vp_in_iff.mpr (by decide) | exact fa_in (by assumption) (by assumption) | exact fa_in (by assumption) rx_iM0 | exact fa_in (by assumption) rx_iM1) ?_
      refine rx_isub C.1 (pc := 108) d_Mod_oneTick_108 ?_
      refine rx_iconst C.1 (v := 5) (pc := 109) d_Mod_oneTick_109 (by decide) ?_
      refine rx_icmp_lt C.1 (pc := 110) d_Mod_oneTick_110 (tgt := 117) rfl (fun h5 => ?_) (fun h5 => ?_)
      ·
        refine rx_iconst C.1 (v := 0) (pc := 117) d_Mod_oneTick_117 (by decide) ?_
        rw [if_neg h4, if_pos h5] at hk
        exact hk
      ·
        refine rx_iconst C.1 (v := 1) (pc := 113) d_Mod_oneTick_113 (by decide) ?_
        refine rx_goto C.1 (pc := 114) d_Mod_oneTick_114 (tgt := 118) rfl ?_
        rw [if_neg h4, if_neg h5] at hk
        exact hk
  refine rx_istore_n C.1 (pc := 118) d_Mod_oneTick_118 (by decide) ?_
  refine rx_aload_n C.1 (pc := 119) d_Mod_oneTick_119 rfl ?_
  refine g_Mod_76 D b ca C (pc := 120) d_Mod_oneTick_120 ?_
  refine rx_iload_n C.1 (pc := 123) d_Mod_oneTick_123 rfl ?_
  refine rx_iald C (i := 94) (n := 2) (pc := 124) d_Mod_oneTick_124 (rx_lt (by decide)) rfl (by first | assumption | exact rx_in2 (by assumption) | exact rx_v02 | exact rx_v12 | exact vp_in_iff.mpr (by decide) | exact fa_in (by assumption) (by assumption) | exact fa_in (by assumption) rx_iM0 | exact fa_in (by assumption) rx_iM1) ?_
  refine rx_iconst C.1 (v := 1) (pc := 125) d_Mod_oneTick_125 (by decide) ?_
  refine rx_iadd C.1 (pc := 126) d_Mod_oneTick_126 ?_
  refine rx_istore_n C.1 (pc := 127) d_Mod_oneTick_127 (by decide) ?_
  refine rx_loc C.1 (rx_sub_all (lo' := [(3, .int ((m6 94 (Int32.toNatClampNeg 1)) + 1)), (2, .int (if (m6 93 (Int32.toNatClampNeg 1)) ≤ (m6 94 (Int32.toNatClampNeg 1)) then 0 else (if ((m6 71 3) - (m6 95 (Int32.toNatClampNeg 1))) < 5 then 0 else 1) : Int32)), (1, .int 1), (0, .ref (rg_A (rx_fin D b ca) 71))]) ⟨rfl, rfl, rfl, rfl, trivial⟩) ?_
  refine lp_Mod_rs l D b ca rx_iM1 C _ _ _ (Nat.le_refl _) (fun k' => ?_)
  refine rx_nm (fun m7 e7 => ?_)
  refine rx_aload_n C.1 (pc := 161) d_Mod_oneTick_161 rfl ?_
  refine g_Mod_79 D b ca C (pc := 162) d_Mod_oneTick_162 ?_
  refine rx_iload_n C.1 (pc := 165) d_Mod_oneTick_165 rfl ?_
  refine rx_iload_n C.1 (pc := 166) d_Mod_oneTick_166 rfl ?_
  refine rx_cut1 (jpc := 183) (v := if (if (m6 93 (Int32.toNatClampNeg 1)) ≤ (m6 94 (Int32.toNatClampNeg 1)) then 0 else (if ((m6 71 3) - (m6 95 (Int32.toNatClampNeg 1))) < 5 then 0 else 1) : Int32) = 0 then (m7 95 (Int32.toNatClampNeg 1)) else (m7 71 3)) (fun hk => ?_) ?_
  ·
    refine rx_if_eq C.1 (pc := 167) d_Mod_oneTick_167 (tgt := 177) rfl (fun h6 => ?_) (fun h6 => ?_)
    ·
      refine rx_aload_n C.1 (pc := 177) d_Mod_oneTick_177 rfl ?_
      refine g_Mod_79 D b ca C (pc := 178) d_Mod_oneTick_178 ?_
      refine rx_iload_n C.1 (pc := 181) d_Mod_oneTick_181 rfl ?_
      refine rx_iald C (i := 95) (n := 2) (pc := 182) d_Mod_oneTick_182 (rx_lt (by decide)) rfl (by first | assumption | exact rx_in2 (by assumption) | exact rx_v02 | exact rx_v12 | exact vp_in_iff.mpr (by decide) | exact fa_in (by assumption) (by assumption) | exact fa_in (by assumption) rx_iM0 | exact fa_in (by assumption) rx_iM1) ?_
      rw [if_pos h6] at hk
      exact hk
    ·
      refine rx_aload_n C.1 (pc := 170) d_Mod_oneTick_170 rfl ?_
      refine g_Mod_113 D b ca C (pc := 171) d_Mod_oneTick_171 ?_
      refine rx_goto C.1 (pc := 174) d_Mod_oneTick_174 (tgt := 183) rfl ?_
      rw [if_neg h6] at hk
      exact hk
  refine rx_iast C (i := 95) (n := 2) (pc := 183) d_Mod_oneTick_183 (rx_lt (by decide)) (fun _ => rfl) (by first | assumption | exact rx_in2 (by assumption) | exact rx_v02 | exact rx_v12 | exact vp_in_iff.mpr (by decide) | exact fa_in (by assumption) (by assumption) | exact fa_in (by assumption) rx_iM0 | exact fa_in (by assumption) rx_iM1) (rx_SI_wr (by omega)) ?_
  refine rx_nm (fun m8 e8 => ?_)
  have f8 : m8 = or_Mod 1 m6 := by subst e8 e7; unfold or_Mod; rfl
  refine rx_iinc C.1 (v := 2) (pc := 184) d_Mod_oneTick_184 rfl (by decide) (by decide) ?_
  refine rx_goto C.1 (pc := 187) d_Mod_oneTick_187 (tgt := 78) rfl ?_
  refine rx_iload_n C.1 (pc := 78) d_Mod_oneTick_78 rfl ?_
  refine rx_iconst C.1 (v := 2) (pc := 79) d_Mod_oneTick_79 (by decide) ?_
  refine rx_icmp_ge C.1 (pc := 80) d_Mod_oneTick_80 (tgt := 190) rfl (fun _ => ?_) (fun h9 => absurd (by decide) h9) 
  exact rx_vret C (pc := 190) d_Mod_oneTick_190 (by rw [f8, f6, e4, e3, e2, e1]; rfl)
set_option maxHeartbeats 4000000 in
set_option maxRecDepth 100000 in
theorem it_Mod_tick (l : Launch) (D : va_G) (b : Nat) (ca : Nat → ClassId) {p : Program} {e : Env} {s : State} {mm : MethodId} {args : Array Value} {below : List Frame} {meth : Method} {c : Code} {H0 : Heap} {Q : State → Prop} {σ : rMem} {n k : Int32} (C : rx_Cw p s mm args meth c R_Mod b_Mod_tick 3 (some .boolean) (rx_fin D b ca)) 
    (kx : n ≤ k → rx_X p l e (rx_rm 5) s mm args below meth c (rg_O (rx_fin D b ca)) H0 0 0 Q 3 (rx_m (rx_fin D b ca) σ) 30 [(2, .int k), (0, .ref (rg_A (rx_fin D b ca) 71)), (1, .int n)] []) (kb : ¬ n ≤ k → rx_X p l e (rx_rm 5) s mm args below meth c (rg_O (rx_fin D b ca)) H0 0 0 Q 3 (rx_m (rx_fin D b ca) (sp_Mod_oneTick σ)) 15 [(2, .int (k + 1)), (0, .ref (rg_A (rx_fin D b ca) 71)), (1, .int n)] []) : rx_X p l e (rx_rm 5) s mm args below meth c (rg_O (rx_fin D b ca)) H0 0 0 Q 3 (rx_m (rx_fin D b ca) σ) 15 [(2, .int k), (0, .ref (rg_A (rx_fin D b ca) 71)), (1, .int n)] [] := by
  refine rx_iload_n C.1 (pc := 15) d_Mod_tick_15 rfl ?_
  refine rx_iload_n C.1 (pc := 16) d_Mod_tick_16 rfl ?_
  refine rx_icmp_ge C.1 (pc := 17) d_Mod_tick_17 (tgt := 30) rfl (fun h1 => ?_) (fun h1 => ?_)
  ·
    exact kx h1
  ·
    refine rx_aload_n C.1 (pc := 20) d_Mod_tick_20 rfl ?_
    refine q_Mod_165 D b ca C (pc := 21) d_Mod_tick_21 (c_Mod_oneTick l D b ca ) ⟨Nat.le_of_ble_eq_true rfl, Nat.le_of_ble_eq_true rfl⟩ ⟨Nat.zero_le _, Nat.zero_le _⟩ (Nat.le_of_ble_eq_true rfl) ?_
    refine rx_iinc C.1 (v := k + 1) (pc := 24) d_Mod_tick_24 rfl rfl (by decide) ?_
    refine rx_goto C.1 (pc := 27) d_Mod_tick_27 (tgt := 15) rfl ?_
    refine rx_loc C.1 (rx_sub_all (lo' := [(2, .int (k + 1)), (0, .ref (rg_A (rx_fin D b ca) 71)), (1, .int n)]) ⟨rfl, rfl, rfl, trivial⟩) ?_
    exact kb h1
theorem tkM_pos {n : Int32} (h1 : ¬ n < 1) (h2 : n ≤ 20) : 1 ≤ n.toInt ∧ n.toInt ≤ 20 := by
  have e20 : (20 : Int32).toInt = 20 := rfl
  rw [rx_ltI, rx_I1] at h1
  rw [rx_leI, e20] at h2
  exact ⟨by omega, by omega⟩
theorem lp_Mod_tick1 (l : Launch) (D : va_G) (b : Nat) (ca : Nat → ClassId) {p : Program} {e : Env} {s : State} {mm : MethodId} {args : Array Value} {below : List Frame} {meth : Method} {c : Code} {H0 : Heap} {Q : State → Prop} {n : Int32} (C : rx_Cw p s mm args meth c R_Mod b_Mod_tick 3 (some .boolean) (rx_fin D b ca)) :
    ∀ (j : Nat) (σ : rMem) (k : Int32), n.toInt - k.toInt = j →
      (∀ k' : Int32, rx_X p l e (rx_rm 5) s mm args below meth c (rg_O (rx_fin D b ca)) H0 0 0 Q 3 (rx_m (rx_fin D b ca) (it_n sp_Mod_oneTick j σ)) 30 [(2, .int k'), (0, .ref (rg_A (rx_fin D b ca) 71)), (1, .int n)] []) →
      rx_X p l e (rx_rm 5) s mm args below meth c (rg_O (rx_fin D b ca)) H0 0 0 Q 3 (rx_m (rx_fin D b ca) σ) 15 [(2, .int k), (0, .ref (rg_A (rx_fin D b ca) 71)), (1, .int n)] [] := by
  intro j
  induction j with
  | zero =>
    intro σ k hn kx
    exact it_Mod_tick l D b ca C (fun h => kx k) (fun h => absurd (rx_leI.mpr (by omega)) h)
  | succ j ih =>
    intro σ k hn kx
    have h1 := rx_hi n
    have h2 := rx_lo k
    refine it_Mod_tick l D b ca C (fun h => absurd (rx_leI.mp h) (by omega)) (fun h => ih _ _ ?_ (fun k' => kx k'))
    rw [rx_addI (by rw [rx_I1]; omega) (by rw [rx_I1]; omega), rx_I1]
    omega
theorem lp_Mod_tick (l : Launch) (D : va_G) (b : Nat) (ca : Nat → ClassId) {p : Program} {e : Env} {s : State} {mm : MethodId} {args : Array Value} {below : List Frame} {meth : Method} {c : Code} {H0 : Heap} {Q : State → Prop} {n : Int32} {σ : rMem} (C : rx_Cw p s mm args meth c R_Mod b_Mod_tick 3 (some .boolean) (rx_fin D b ca)) (hn : 1 ≤ n.toInt ∧ n.toInt ≤ 20)
    (kx : ∀ k' : Int32, rx_X p l e (rx_rm 5) s mm args below meth c (rg_O (rx_fin D b ca)) H0 0 0 Q 3 (rx_m (rx_fin D b ca) (it_n sp_Mod_oneTick n.toNatClampNeg σ)) 30 [(2, .int k'), (0, .ref (rg_A (rx_fin D b ca) 71)), (1, .int n)] []) :
    rx_X p l e (rx_rm 5) s mm args below meth c (rg_O (rx_fin D b ca)) H0 0 0 Q 3 (rx_m (rx_fin D b ca) σ) 15 [(2, .int 0), (0, .ref (rg_A (rx_fin D b ca) 71)), (1, .int n)] [] :=
  lp_Mod_tick1 l D b ca C n.toNatClampNeg σ 0 (by have := rx_cn (x := n) (by omega); rw [rx_I0]; omega) kx
def sp_Mod_tick (σ : rMem) (n : Int32) : rMem × Int32 := if n < 1 then (σ, 0) else (if n ≤ 20 then (let m1 := it_n sp_Mod_oneTick n.toNatClampNeg σ; (m1, 1)) else (σ, 0))
set_option maxHeartbeats 4000000 in
set_option maxRecDepth 100000 in
theorem c_Mod_tick (l : Launch) (D : va_G) (b : Nat) (ca : Nat → ClassId) {σ : rMem} {n : Int32} : rx_C l (rx_fin D b ca) y_Mod_tick b_Mod_tick 3 (some .boolean) (rx_rm 5) [.ref (rg_A (rx_fin D b ca) 71), .int n] σ (some (.int (sp_Mod_tick σ n).2)) (sp_Mod_tick σ n).1 := by
  refine rx_of (lo := [(0, .ref (rg_A (rx_fin D b ca) 71)), (1, .int n)]) (by decide) (rx_fin_D D b ca) rfl (Nat.le_of_ble_eq_true rfl) rfl ?_
  intro p e s mm below meth c C
  refine rx_iload_n C.1 (pc := 0) d_Mod_tick_0 rfl ?_
  refine rx_iconst C.1 (v := 1) (pc := 1) d_Mod_tick_1 (by decide) ?_
  refine rx_icmp_lt C.1 (pc := 2) d_Mod_tick_2 (tgt := 11) rfl (fun h1 => ?_) (fun h1 => ?_)
  ·
    refine rx_iconst C.1 (v := 0) (pc := 11) d_Mod_tick_11 (by decide) ?_
    exact rx_zret C (pc := 12) d_Mod_tick_12 (Or.inl rfl) (by unfold sp_Mod_tick; first | (simp only [if_pos h1]; done) | (simp only [if_pos h1]; rfl)) (by unfold sp_Mod_tick; first | (simp only [if_pos h1]; done) | (simp only [if_pos h1]; rfl))
  ·
    refine rx_iload_n C.1 (pc := 5) d_Mod_tick_5 rfl ?_
    refine rx_bipush C.1 (v := 20) (pc := 6) d_Mod_tick_6 (by decide) ?_
    refine rx_icmp_le C.1 (pc := 8) d_Mod_tick_8 (tgt := 13) rfl (fun h2 => ?_) (fun h2 => ?_)
    ·
      refine rx_iconst C.1 (v := 0) (pc := 13) d_Mod_tick_13 (by decide) ?_
      refine rx_istore_n C.1 (pc := 14) d_Mod_tick_14 (by decide) ?_
      refine rx_loc C.1 (rx_sub_all (lo' := [(2, .int 0), (0, .ref (rg_A (rx_fin D b ca) 71)), (1, .int n)]) ⟨rfl, rfl, rfl, trivial⟩) ?_
      refine lp_Mod_tick l D b ca C (tkM_pos h1 h2) (fun k' => ?_)
      refine rx_iconst C.1 (v := 1) (pc := 30) d_Mod_tick_30 (by decide) ?_
      exact rx_zret C (pc := 31) d_Mod_tick_31 (Or.inr rfl) (by unfold sp_Mod_tick; first | (simp only [if_neg h1, if_pos h2]; done) | (simp only [if_neg h1, if_pos h2]; rfl)) (by unfold sp_Mod_tick; first | (simp only [if_neg h1, if_pos h2]; done) | (simp only [if_neg h1, if_pos h2]; rfl))
    ·
      refine rx_iconst C.1 (v := 0) (pc := 11) d_Mod_tick_11 (by decide) ?_
      exact rx_zret C (pc := 12) d_Mod_tick_12 (Or.inl rfl) (by unfold sp_Mod_tick; first | (simp only [if_neg h1, if_neg h2]; done) | (simp only [if_neg h1, if_neg h2]; rfl)) (by unfold sp_Mod_tick; first | (simp only [if_neg h1, if_neg h2]; done) | (simp only [if_neg h1, if_neg h2]; rfl))
