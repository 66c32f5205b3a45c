theorem tk_row {σ : rMem} {i : Int32} {f : Nat} : sp_Mod_take σ i 73 f = (if f = 8 then σ 72 (9 * i + 8).toNatClampNeg else if f = 7 then σ 72 (9 * i + 7).toNatClampNeg else if f = 6 then σ 72 (9 * i + 6).toNatClampNeg else if f = 5 then σ 72 (9 * i + 5).toNatClampNeg else if f = 4 then σ 72 (9 * i + 4).toNatClampNeg else if f = 3 then σ 72 (9 * i + 3).toNatClampNeg else if f = 2 then σ 72 (9 * i + 2).toNatClampNeg else if f = 1 then σ 72 (9 * i + 1).toNatClampNeg else if f = 0 then σ 72 (9 * i + 0).toNatClampNeg else σ 73 f) := by
  have e0 : Int32.toNatClampNeg 0 = 0 := rfl
  have e1 : Int32.toNatClampNeg 1 = 1 := rfl
  have e2 : Int32.toNatClampNeg 2 = 2 := rfl
  have e3 : Int32.toNatClampNeg 3 = 3 := rfl
  have e4 : Int32.toNatClampNeg 4 = 4 := rfl
  have e5 : Int32.toNatClampNeg 5 = 5 := rfl
  have e6 : Int32.toNatClampNeg 6 = 6 := rfl
  have e7 : Int32.toNatClampNeg 7 = 7 := rfl
  have e8 : Int32.toNatClampNeg 8 = 8 := rfl
  simp only [sp_Mod_take, sf_ne (show (73 : Nat) ≠ 72 by decide), rx_wr_ne (show (73 : Nat) ≠ 71 by decide)]
  simp only [rx_wr_at, e0, e1, e2, e3, e4, e5, e6, e7, e8, true_and]
  simp only [show (72 : Nat) = 73 ↔ False by decide, false_and, if_false]
theorem dM_m {σ : rMem} {i : Int32} (hI : rx_SI σ) (g : 0 ≤ i.toInt ∧ i.toInt < (σ 71 4).toInt) (h : rx_iM (σ 72 (9 * i + 2).toNatClampNeg)) : rx_iM (sp_Mod_take σ i 73 (Int32.toNatClampNeg 2)) := by
  have e2 : Int32.toNatClampNeg 2 = 2 := rfl
  rw [e2, tk_row]
  exact h
theorem dM_t {σ : rMem} {i : Int32} (hI : rx_SI σ) (g : 0 ≤ i.toInt ∧ i.toInt < (σ 71 4).toInt) (h : rx_t5 (σ 72 (9 * i + 1).toNatClampNeg)) : rx_t5 (sp_Mod_take σ i 73 (Int32.toNatClampNeg 1)) := by
  have e1 : Int32.toNatClampNeg 1 = 1 := rfl
  rw [e1, tk_row]
  exact h
theorem dM_a {t : Int32} (ht : rx_t5 t) (h5 : ¬ t = 5) (h4 : ¬ t = 4) (h0 : ¬ t = 0) : 1 ≤ t.toInt ∧ t.toInt ≤ 3 := by
  rw [rx_eqI] at h5 h4 h0
  have e5 : (5 : Int32).toInt = 5 := rfl
  have e4 : (4 : Int32).toInt = 4 := rfl
  rw [e5] at h5
  rw [e4] at h4
  rw [rx_I0] at h0
  obtain ⟨a, b⟩ := ht
  omega
def sp_Mod_deliver (σ : rMem) (i : Int32) : rMem × Int32 := if (rv_Mod_isMessage σ i) = 0 then (σ, 0) else (let m1 := sp_Mod_take σ i; if (m1 73 (Int32.toNatClampNeg 1)) = 5 then (if (m1 74 (m1 73 (Int32.toNatClampNeg 2)).toNatClampNeg) = (m1 73 (Int32.toNatClampNeg 3)) then (if (m1 73 (Int32.toNatClampNeg 0)) = 1 then (let m16 := sp_Mod_advert m1 (m1 73 (Int32.toNatClampNeg 2)) (m1 73 (Int32.toNatClampNeg 4)); if (m16 73 (Int32.toNatClampNeg 0)) = 3 then (let m18 := sp_Mod_replyAtMobile m16 (m1 73 (Int32.toNatClampNeg 2)); if (m18 73 (Int32.toNatClampNeg 0)) = 4 then (let m19 := sp_Mod_dataAtMobile m18 (m1 73 (Int32.toNatClampNeg 2)); (m19, 1)) else (m18, 1)) else (if (m16 73 (Int32.toNatClampNeg 0)) = 4 then (let m17 := sp_Mod_dataAtMobile m16 (m1 73 (Int32.toNatClampNeg 2)); (m17, 1)) else (m16, 1))) else (if (m1 73 (Int32.toNatClampNeg 0)) = 3 then (let m14 := sp_Mod_replyAtMobile m1 (m1 73 (Int32.toNatClampNeg 2)); if (m14 73 (Int32.toNatClampNeg 0)) = 4 then (let m15 := sp_Mod_dataAtMobile m14 (m1 73 (Int32.toNatClampNeg 2)); (m15, 1)) else (m14, 1)) else (if (m1 73 (Int32.toNatClampNeg 0)) = 4 then (let m13 := sp_Mod_dataAtMobile m1 (m1 73 (Int32.toNatClampNeg 2)); (m13, 1)) else (m1, 1)))) else (m1, 1)) else (if (m1 73 (Int32.toNatClampNeg 1)) = 4 then (let m12 := sp_Mod_ack m1 (m1 73 (Int32.toNatClampNeg 2)); (m12, 1)) else (if (m1 73 (Int32.toNatClampNeg 1)) = 0 then (if (m1 73 (Int32.toNatClampNeg 0)) = 2 then (let m10 := sp_Mod_requestAtHome m1 (m1 73 (Int32.toNatClampNeg 2)); if (m10 73 (Int32.toNatClampNeg 0)) = 4 then (let m11 := sp_Mod_dataAtHome m10 (m1 73 (Int32.toNatClampNeg 2)); (m11, 1)) else (m10, 1)) else (if (m1 73 (Int32.toNatClampNeg 0)) = 4 then (let m9 := sp_Mod_dataAtHome m1 (m1 73 (Int32.toNatClampNeg 2)); (m9, 1)) else (m1, 1))) else (if (m1 73 (Int32.toNatClampNeg 0)) = 2 then (let m5 := sp_Mod_requestAtForeign m1 (m1 73 (Int32.toNatClampNeg 1)) (m1 73 (Int32.toNatClampNeg 2)); if (m5 73 (Int32.toNatClampNeg 0)) = 3 then (let m7 := sp_Mod_replyAtForeign m5 (m1 73 (Int32.toNatClampNeg 1)) (m1 73 (Int32.toNatClampNeg 2)); if (m7 73 (Int32.toNatClampNeg 0)) = 5 then (if (m7 89 ((2 * (m1 73 (Int32.toNatClampNeg 1))) + (m1 73 (Int32.toNatClampNeg 2))).toNatClampNeg) ≤ (m7 71 3) then (m7, 1) else (let m8 := sp_Mod_send m7 4 5 (m1 73 (Int32.toNatClampNeg 2)) (m1 73 (Int32.toNatClampNeg 1)) (m7 73 (Int32.toNatClampNeg 4)) 0 0 0 0; (m8, 1))) else (m7, 1)) else (if (m5 73 (Int32.toNatClampNeg 0)) = 5 then (if (m5 89 ((2 * (m1 73 (Int32.toNatClampNeg 1))) + (m1 73 (Int32.toNatClampNeg 2))).toNatClampNeg) ≤ (m5 71 3) then (m5, 1) else (let m6 := sp_Mod_send m5 4 5 (m1 73 (Int32.toNatClampNeg 2)) (m1 73 (Int32.toNatClampNeg 1)) (m5 73 (Int32.toNatClampNeg 4)) 0 0 0 0; (m6, 1))) else (m5, 1))) else (if (m1 73 (Int32.toNatClampNeg 0)) = 3 then (let m3 := sp_Mod_replyAtForeign m1 (m1 73 (Int32.toNatClampNeg 1)) (m1 73 (Int32.toNatClampNeg 2)); if (m3 73 (Int32.toNatClampNeg 0)) = 5 then (if (m3 89 ((2 * (m1 73 (Int32.toNatClampNeg 1))) + (m1 73 (Int32.toNatClampNeg 2))).toNatClampNeg) ≤ (m3 71 3) then (m3, 1) else (let m4 := sp_Mod_send m3 4 5 (m1 73 (Int32.toNatClampNeg 2)) (m1 73 (Int32.toNatClampNeg 1)) (m3 73 (Int32.toNatClampNeg 4)) 0 0 0 0; (m4, 1))) else (m3, 1)) else (if (m1 73 (Int32.toNatClampNeg 0)) = 5 then (if (m1 89 ((2 * (m1 73 (Int32.toNatClampNeg 1))) + (m1 73 (Int32.toNatClampNeg 2))).toNatClampNeg) ≤ (m1 71 3) then (m1, 1) else (let m2 := sp_Mod_send m1 4 5 (m1 73 (Int32.toNatClampNeg 2)) (m1 73 (Int32.toNatClampNeg 1)) (m1 73 (Int32.toNatClampNeg 4)) 0 0 0 0; (m2, 1))) else (m1, 1)))))))
set_option maxHeartbeats 4000000 in
set_option maxRecDepth 100000 in
theorem c_Mod_deliver (l : Launch) (D : va_G) (b : Nat) (ca : Nat → ClassId) {σ : rMem} {i : Int32} (hm : ¬ rv_Mod_isMessage σ i = 0 → rx_iM (σ 72 (9 * i + 2).toNatClampNeg) ∧ rx_t5 (σ 72 (9 * i + 1).toNatClampNeg)) : rx_C l (rx_fin D b ca) y_Mod_deliver b_Mod_deliver 4 (some .boolean) (rx_rm 4) [.ref (rg_A (rx_fin D b ca) 71), .int i] σ (some (.int (sp_Mod_deliver σ i).2)) (sp_Mod_deliver σ i).1 := by
  refine rx_of (lo := [(0, .ref (rg_A (rx_fin D b ca) 71)), (1, .int i)]) (by decide) (rx_fin_D D b ca) rfl (Nat.le_of_ble_eq_true rfl) rfl ?_
  intro p e s mm below meth c C
  refine rx_aload_n C.1 (pc := 0) d_Mod_deliver_0 rfl ?_
  refine rx_iload_n C.1 (pc := 1) d_Mod_deliver_1 rfl ?_
  refine q_Mod_132 D b ca C (pc := 2) d_Mod_deliver_2 (c_Mod_isMessage l D b ca ) ⟨Nat.le_of_ble_eq_true rfl, Nat.le_of_ble_eq_true rfl⟩ ⟨Nat.zero_le _, Nat.zero_le _⟩ (Nat.le_of_ble_eq_true rfl) ?_
  refine rx_if_ne C.1 (pc := 5) d_Mod_deliver_5 (tgt := 10) rfl (fun h1 => ?_) (fun h1 => ?_)
  ·
    have g1 := rh_Mod h1
    refine rx_si (fun hI => ?_)
    refine rx_aload_n C.1 (pc := 10) d_Mod_deliver_10 rfl ?_
    refine rx_iload_n C.1 (pc := 11) d_Mod_deliver_11 rfl ?_
    refine q_Mod_135 D b ca C (pc := 12) d_Mod_deliver_12 (c_Mod_take l D b ca (by first | assumption | exact rx_iM0 | exact rx_iM1 | (constructor <;> omega))) ⟨Nat.le_of_ble_eq_true rfl, Nat.le_of_ble_eq_true rfl⟩ ⟨Nat.zero_le _, Nat.zero_le _⟩ (Nat.le_of_ble_eq_true rfl) ?_
    refine rx_nm (fun m1 e1 => ?_)
    refine rx_aload_n C.1 (pc := 15) d_Mod_deliver_15 rfl ?_
    refine g_Mod_13 D b ca C (pc := 16) d_Mod_deliver_16 ?_
    refine rx_iconst C.1 (v := 2) (pc := 19) d_Mod_deliver_19 (by decide) ?_
    refine rx_iald C (i := 73) (n := 9) (pc := 20) d_Mod_deliver_20 (rx_lt (by decide)) rfl (by first | assumption | exact rx_in2 (by assumption) | exact rx_v02 | exact rx_v12 | exact vp_in_iff.mpr (by decide) | exact fa_in (by assumption) (by assumption) | exact fa_in (by assumption) rx_iM0 | exact fa_in (by assumption) rx_iM1) ?_
    have hmm : rx_iM (m1 73 (Int32.toNatClampNeg 2)) := by subst e1; exact dM_m hI g1 (hm h1).1
    refine rx_istore_n C.1 (pc := 21) d_Mod_deliver_21 (by decide) ?_
    refine rx_aload_n C.1 (pc := 22) d_Mod_deliver_22 rfl ?_
    refine g_Mod_13 D b ca C (pc := 23) d_Mod_deliver_23 ?_
    refine rx_iconst C.1 (v := 1) (pc := 26) d_Mod_deliver_26 (by decide) ?_
    refine rx_iald C (i := 73) (n := 9) (pc := 27) d_Mod_deliver_27 (rx_lt (by decide)) rfl (by first | assumption | exact rx_in2 (by assumption) | exact rx_v02 | exact rx_v12 | exact vp_in_iff.mpr (by decide) | exact fa_in (by assumption) (by assumption) | exact fa_in (by assumption) rx_iM0 | exact fa_in (by assumption) rx_iM1) ?_
    have htt : rx_t5 (m1 73 (Int32.toNatClampNeg 1)) := by subst e1; exact dM_t hI g1 (hm h1).2
    refine rx_istore_n C.1 (pc := 28) d_Mod_deliver_28 (by decide) ?_
    refine rx_iload_n C.1 (pc := 29) d_Mod_deliver_29 rfl ?_
    refine rx_iconst C.1 (v := 5) (pc := 30) d_Mod_deliver_30 (by decide) ?_
    refine rx_icmp_ne C.1 (pc := 31) d_Mod_deliver_31 (tgt := 51) rfl (fun h2 => ?_) (fun h2 => ?_)
    ·
      refine rx_iload_n C.1 (pc := 51) d_Mod_deliver_51 rfl ?_
      refine rx_iconst C.1 (v := 5) (pc := 52) d_Mod_deliver_52 (by decide) ?_
      refine rx_icmp_ne C.1 (pc := 53) d_Mod_deliver_53 (tgt := 110) rfl (fun _ => ?_) (fun h9 => absurd h9 h2)
      refine rx_iload_n C.1 (pc := 110) d_Mod_deliver_110 rfl ?_
      refine rx_iconst C.1 (v := 4) (pc := 111) d_Mod_deliver_111 (by decide) ?_
      refine rx_icmp_ne C.1 (pc := 112) d_Mod_deliver_112 (tgt := 123) rfl (fun h3 => ?_) (fun h3 => ?_)
      ·
        refine rx_iload_n C.1 (pc := 123) d_Mod_deliver_123 rfl ?_
        refine rx_if_ne C.1 (pc := 124) d_Mod_deliver_124 (tgt := 160) rfl (fun h4 => ?_) (fun h4 => ?_)
        ·
          have haa := dM_a htt h2 h3 h4
          refine rx_aload_n C.1 (pc := 160) d_Mod_deliver_160 rfl ?_
          refine g_Mod_13 D b ca C (pc := 161) d_Mod_deliver_161 ?_
          refine rx_iconst C.1 (v := 0) (pc := 164) d_Mod_deliver_164 (by decide) ?_
          refine rx_iald C (i := 73) (n := 9) (pc := 165) d_Mod_deliver_165 (rx_lt (by decide)) rfl (by first | assumption | exact rx_in2 (by assumption) | exact rx_v02 | exact rx_v12 | exact vp_in_iff.mpr (by decide) | exact fa_in (by assumption) (by assumption) | exact fa_in (by assumption) rx_iM0 | exact fa_in (by assumption) rx_iM1) ?_
          refine rx_iconst C.1 (v := 2) (pc := 166) d_Mod_deliver_166 (by decide) ?_
          refine rx_icmp_ne C.1 (pc := 167) d_Mod_deliver_167 (tgt := 176) rfl (fun h5 => ?_) (fun h5 => ?_)
          ·
            refine rx_aload_n C.1 (pc := 176) d_Mod_deliver_176 rfl ?_
            refine g_Mod_13 D b ca C (pc := 177) d_Mod_deliver_177 ?_
            refine rx_iconst C.1 (v := 0) (pc := 180) d_Mod_deliver_180 (by decide) ?_
            refine rx_iald C (i := 73) (n := 9) (pc := 181) d_Mod_deliver_181 (rx_lt (by decide)) rfl (by first | assumption | exact rx_in2 (by assumption) | exact rx_v02 | exact rx_v12 | exact vp_in_iff.mpr (by decide) | exact fa_in (by assumption) (by assumption) | exact fa_in (by assumption) rx_iM0 | exact fa_in (by assumption) rx_iM1) ?_
            refine rx_iconst C.1 (v := 3) (pc := 182) d_Mod_deliver_182 (by decide) ?_
            refine rx_icmp_ne C.1 (pc := 183) d_Mod_deliver_183 (tgt := 192) rfl (fun h6 => ?_) (fun h6 => ?_)
            ·
              refine rx_aload_n C.1 (pc := 192) d_Mod_deliver_192 rfl ?_
              refine g_Mod_13 D b ca C (pc := 193) d_Mod_deliver_193 ?_
              refine rx_iconst C.1 (v := 0) (pc := 196) d_Mod_deliver_196 (by decide) ?_
              refine rx_iald C (i := 73) (n := 9) (pc := 197) d_Mod_deliver_197 (rx_lt (by decide)) rfl (by first | assumption | exact rx_in2 (by assumption) | exact rx_v02 | exact rx_v12 | exact vp_in_iff.mpr (by decide) | exact fa_in (by assumption) (by assumption) | exact fa_in (by assumption) rx_iM0 | exact fa_in (by assumption) rx_iM1) ?_
              refine rx_iconst C.1 (v := 5) (pc := 198) d_Mod_deliver_198 (by decide) ?_
              refine rx_icmp_ne C.1 (pc := 199) d_Mod_deliver_199 (tgt := 237) rfl (fun h7 => ?_) (fun h7 => ?_)
              ·
                refine rx_iconst C.1 (v := 1) (pc := 237) d_Mod_deliver_237 (by decide) ?_
                exact rx_zret C (pc := 238) d_Mod_deliver_238 (Or.inr rfl) (by subst e1; unfold sp_Mod_deliver; first | (simp only [if_neg h1, if_neg h2, if_neg h3, if_neg h4, if_neg h5, if_neg h6, if_neg h7]; done) | (simp only [if_neg h1, if_neg h2, if_neg h3, if_neg h4, if_neg h5, if_neg h6, if_neg h7]; rfl)) (by subst e1; unfold sp_Mod_deliver; first | (simp only [if_neg h1, if_neg h2, if_neg h3, if_neg h4, if_neg h5, if_neg h6, if_neg h7]; done) | (simp only [if_neg h1, if_neg h2, if_neg h3, if_neg h4, if_neg h5, if_neg h6, if_neg h7]; rfl))
              ·
                refine rx_aload_n C.1 (pc := 202) d_Mod_deliver_202 rfl ?_
                refine g_Mod_113 D b ca C (pc := 203) d_Mod_deliver_203 ?_
                refine rx_aload_n C.1 (pc := 206) d_Mod_deliver_206 rfl ?_
                refine g_Mod_61 D b ca C (pc := 207) d_Mod_deliver_207 ?_
                refine rx_iconst C.1 (v := 2) (pc := 210) d_Mod_deliver_210 (by decide) ?_
                refine rx_iload_n C.1 (pc := 211) d_Mod_deliver_211 rfl ?_
                refine rx_imul C.1 (pc := 212) d_Mod_deliver_212 ?_
                refine rx_iload_n C.1 (pc := 213) d_Mod_deliver_213 rfl ?_
                refine rx_iadd C.1 (pc := 214) d_Mod_deliver_214 ?_
                refine rx_iald C (i := 89) (n := 8) (pc := 215) d_Mod_deliver_215 (rx_lt (by decide)) rfl (by first | assumption | exact rx_in2 (by assumption) | exact rx_v02 | exact rx_v12 | exact vp_in_iff.mpr (by decide) | exact fa_in (by assumption) (by assumption) | exact fa_in (by assumption) rx_iM0 | exact fa_in (by assumption) rx_iM1) ?_
                refine rx_icmp_ge C.1 (pc := 216) d_Mod_deliver_216 (tgt := 237) rfl (fun h8 => ?_) (fun h8 => ?_)
                ·
                  refine rx_iconst C.1 (v := 1) (pc := 237) d_Mod_deliver_237 (by decide) ?_
                  exact rx_zret C (pc := 238) d_Mod_deliver_238 (Or.inr rfl) (by subst e1; unfold sp_Mod_deliver; first | (simp only [if_neg h1, if_neg h2, if_neg h3, if_neg h4, if_neg h5, if_neg h6, if_pos h7, if_pos h8]; done) | (simp only [if_neg h1, if_neg h2, if_neg h3, if_neg h4, if_neg h5, if_neg h6, if_pos h7, if_pos h8]; rfl)) (by subst e1; unfold sp_Mod_deliver; first | (simp only [if_neg h1, if_neg h2, if_neg h3, if_neg h4, if_neg h5, if_neg h6, if_pos h7, if_pos h8]; done) | (simp only [if_neg h1, if_neg h2, if_neg h3, if_neg h4, if_neg h5, if_neg h6, if_pos h7, if_pos h8]; rfl))
                ·
                  refine rx_aload_n C.1 (pc := 219) d_Mod_deliver_219 rfl ?_
                  refine rx_iconst C.1 (v := 4) (pc := 220) d_Mod_deliver_220 (by decide) ?_
                  refine rx_iconst C.1 (v := 5) (pc := 221) d_Mod_deliver_221 (by decide) ?_
                  refine rx_iload_n C.1 (pc := 222) d_Mod_deliver_222 rfl ?_
                  refine rx_iload_n C.1 (pc := 223) d_Mod_deliver_223 rfl ?_
                  refine rx_aload_n C.1 (pc := 224) d_Mod_deliver_224 rfl ?_
                  refine g_Mod_13 D b ca C (pc := 225) d_Mod_deliver_225 ?_
                  refine rx_iconst C.1 (v := 4) (pc := 228) d_Mod_deliver_228 (by decide) ?_
                  refine rx_iald C (i := 73) (n := 9) (pc := 229) d_Mod_deliver_229 (rx_lt (by decide)) rfl (by first | assumption | exact rx_in2 (by assumption) | exact rx_v02 | exact rx_v12 | exact vp_in_iff.mpr (by decide) | exact fa_in (by assumption) (by assumption) | exact fa_in (by assumption) rx_iM0 | exact fa_in (by assumption) rx_iM1) ?_
                  refine rx_iconst C.1 (v := 0) (pc := 230) d_Mod_deliver_230 (by decide) ?_
                  refine rx_iconst C.1 (v := 0) (pc := 231) d_Mod_deliver_231 (by decide) ?_
                  refine rx_iconst C.1 (v := 0) (pc := 232) d_Mod_deliver_232 (by decide) ?_
                  refine rx_iconst C.1 (v := 0) (pc := 233) d_Mod_deliver_233 (by decide) ?_
                  refine q_Mod_109 D b ca C (pc := 234) d_Mod_deliver_234 (c_Mod_send l D b ca ) ⟨Nat.le_of_ble_eq_true rfl, Nat.le_of_ble_eq_true rfl⟩ ⟨Nat.zero_le _, Nat.zero_le _⟩ (Nat.le_of_ble_eq_true rfl) ?_
                  refine rx_nm (fun m2 e2 => ?_)
                  refine rx_iconst C.1 (v := 1) (pc := 237) d_Mod_deliver_237 (by decide) ?_
                  exact rx_zret C (pc := 238) d_Mod_deliver_238 (Or.inr rfl) (by subst e2 e1; unfold sp_Mod_deliver; first | (simp only [if_neg h1, if_neg h2, if_neg h3, if_neg h4, if_neg h5, if_neg h6, if_pos h7, if_neg h8]; done) | (simp only [if_neg h1, if_neg h2, if_neg h3, if_neg h4, if_neg h5, if_neg h6, if_pos h7, if_neg h8]; rfl)) (by subst e2 e1; unfold sp_Mod_deliver; first | (simp only [if_neg h1, if_neg h2, if_neg h3, if_neg h4, if_neg h5, if_neg h6, if_pos h7, if_neg h8]; done) | (simp only [if_neg h1, if_neg h2, if_neg h3, if_neg h4, if_neg h5, if_neg h6, if_pos h7, if_neg h8]; rfl))
            ·
              refine rx_aload_n C.1 (pc := 186) d_Mod_deliver_186 rfl ?_
              refine rx_iload_n C.1 (pc := 187) d_Mod_deliver_187 rfl ?_
              refine rx_iload_n C.1 (pc := 188) d_Mod_deliver_188 rfl ?_
              refine q_Mod_159 D b ca C (pc := 189) d_Mod_deliver_189 (c_Mod_replyAtForeign l D b ca (by first | assumption | exact rx_iM0 | exact rx_iM1 | (constructor <;> omega)) (by first | assumption | exact rx_iM0 | exact rx_iM1 | (constructor <;> omega))) ⟨Nat.le_of_ble_eq_true rfl, Nat.le_of_ble_eq_true rfl⟩ ⟨Nat.zero_le _, Nat.zero_le _⟩ (Nat.le_of_ble_eq_true rfl) ?_
              refine rx_nm (fun m3 e3 => ?_)
              refine rx_aload_n C.1 (pc := 192) d_Mod_deliver_192 rfl ?_
              refine g_Mod_13 D b ca C (pc := 193) d_Mod_deliver_193 ?_
              refine rx_iconst C.1 (v := 0) (pc := 196) d_Mod_deliver_196 (by decide) ?_
              refine rx_iald C (i := 73) (n := 9) (pc := 197) d_Mod_deliver_197 (rx_lt (by decide)) rfl (by first | assumption | exact rx_in2 (by assumption) | exact rx_v02 | exact rx_v12 | exact vp_in_iff.mpr (by decide) | exact fa_in (by assumption) (by assumption) | exact fa_in (by assumption) rx_iM0 | exact fa_in (by assumption) rx_iM1) ?_
              refine rx_iconst C.1 (v := 5) (pc := 198) d_Mod_deliver_198 (by decide) ?_
              refine rx_icmp_ne C.1 (pc := 199) d_Mod_deliver_199 (tgt := 237) rfl (fun h9 => ?_) (fun h9 => ?_)
              ·
                refine rx_iconst C.1 (v := 1) (pc := 237) d_Mod_deliver_237 (by decide) ?_
                exact rx_zret C (pc := 238) d_Mod_deliver_238 (Or.inr rfl) (by subst e3 e1; unfold sp_Mod_deliver; first | (simp only [if_neg h1, if_neg h2, if_neg h3, if_neg h4, if_neg h5, if_pos h6, if_neg h9]; done) | (simp only [if_neg h1, if_neg h2, if_neg h3, if_neg h4, if_neg h5, if_pos h6, if_neg h9]; rfl)) (by subst e3 e1; unfold sp_Mod_deliver; first | (simp only [if_neg h1, if_neg h2, if_neg h3, if_neg h4, if_neg h5, if_pos h6, if_neg h9]; done) | (simp only [if_neg h1, if_neg h2, if_neg h3, if_neg h4, if_neg h5, if_pos h6, if_neg h9]; rfl))
              ·
                refine rx_aload_n C.1 (pc := 202) d_Mod_deliver_202 rfl ?_
                refine g_Mod_113 D b ca C (pc := 203) d_Mod_deliver_203 ?_
                refine rx_aload_n C.1 (pc := 206) d_Mod_deliver_206 rfl ?_
                refine g_Mod_61 D b ca C (pc := 207) d_Mod_deliver_207 ?_
                refine rx_iconst C.1 (v := 2) (pc := 210) d_Mod_deliver_210 (by decide) ?_
                refine rx_iload_n C.1 (pc := 211) d_Mod_deliver_211 rfl ?_
                refine rx_imul C.1 (pc := 212) d_Mod_deliver_212 ?_
                refine rx_iload_n C.1 (pc := 213) d_Mod_deliver_213 rfl ?_
                refine rx_iadd C.1 (pc := 214) d_Mod_deliver_214 ?_
                refine rx_iald C (i := 89) (n := 8) (pc := 215) d_Mod_deliver_215 (rx_lt (by decide)) rfl (by first | assumption | exact rx_in2 (by assumption) | exact rx_v02 | exact rx_v12 | exact vp_in_iff.mpr (by decide) | exact fa_in (by assumption) (by assumption) | exact fa_in (by assumption) rx_iM0 | exact fa_in (by assumption) rx_iM1) ?_
                refine rx_icmp_ge C.1 (pc := 216) d_Mod_deliver_216 (tgt := 237) rfl (fun h10 => ?_) (fun h10 => ?_)
                ·
                  refine rx_iconst C.1 (v := 1) (pc := 237) d_Mod_deliver_237 (by decide) ?_
                  exact rx_zret C (pc := 238) d_Mod_deliver_238 (Or.inr rfl) (by subst e3 e1; unfold sp_Mod_deliver; first | (simp only [if_neg h1, if_neg h2, if_neg h3, if_neg h4, if_neg h5, if_pos h6, if_pos h9, if_pos h10]; done) | (simp only [if_neg h1, if_neg h2, if_neg h3, if_neg h4, if_neg h5, if_pos h6, if_pos h9, if_pos h10]; rfl)) (by subst e3 e1; unfold sp_Mod_deliver; first | (simp only [if_neg h1, if_neg h2, if_neg h3, if_neg h4, if_neg h5, if_pos h6, if_pos h9, if_pos h10]; done) | (simp only [if_neg h1, if_neg h2, if_neg h3, if_neg h4, if_neg h5, if_pos h6, if_pos h9, if_pos h10]; rfl))
                ·
                  refine rx_aload_n C.1 (pc := 219) d_Mod_deliver_219 rfl ?_
                  refine rx_iconst C.1 (v := 4) (pc := 220) d_Mod_deliver_220 (by decide) ?_
                  refine rx_iconst C.1 (v := 5) (pc := 221) d_Mod_deliver_221 (by decide) ?_
                  refine rx_iload_n C.1 (pc := 222) d_Mod_deliver_222 rfl ?_
                  refine rx_iload_n C.1 (pc := 223) d_Mod_deliver_223 rfl ?_
                  refine rx_aload_n C.1 (pc := 224) d_Mod_deliver_224 rfl ?_
                  refine g_Mod_13 D b ca C (pc := 225) d_Mod_deliver_225 ?_
                  refine rx_iconst C.1 (v := 4) (pc := 228) d_Mod_deliver_228 (by decide) ?_
                  refine rx_iald C (i := 73) (n := 9) (pc := 229) d_Mod_deliver_229 (rx_lt (by decide)) rfl (by first | assumption | exact rx_in2 (by assumption) | exact rx_v02 | exact rx_v12 | exact vp_in_iff.mpr (by decide) | exact fa_in (by assumption) (by assumption) | exact fa_in (by assumption) rx_iM0 | exact fa_in (by assumption) rx_iM1) ?_
                  refine rx_iconst C.1 (v := 0) (pc := 230) d_Mod_deliver_230 (by decide) ?_
                  refine rx_iconst C.1 (v := 0) (pc := 231) d_Mod_deliver_231 (by decide) ?_
                  refine rx_iconst C.1 (v := 0) (pc := 232) d_Mod_deliver_232 (by decide) ?_
                  refine rx_iconst C.1 (v := 0) (pc := 233) d_Mod_deliver_233 (by decide) ?_
                  refine q_Mod_109 D b ca C (pc := 234) d_Mod_deliver_234 (c_Mod_send l D b ca ) ⟨Nat.le_of_ble_eq_true rfl, Nat.le_of_ble_eq_true rfl⟩ ⟨Nat.zero_le _, Nat.zero_le _⟩ (Nat.le_of_ble_eq_true rfl) ?_
                  refine rx_nm (fun m4 e4 => ?_)
                  refine rx_iconst C.1 (v := 1) (pc := 237) d_Mod_deliver_237 (by decide) ?_
                  exact rx_zret C (pc := 238) d_Mod_deliver_238 (Or.inr rfl) (by subst e4 e3 e1; unfold sp_Mod_deliver; first | (simp only [if_neg h1, if_neg h2, if_neg h3, if_neg h4, if_neg h5, if_pos h6, if_pos h9, if_neg h10]; done) | (simp only [if_neg h1, if_neg h2, if_neg h3, if_neg h4, if_neg h5, if_pos h6, if_pos h9, if_neg h10]; rfl)) (by subst e4 e3 e1; unfold sp_Mod_deliver; first | (simp only [if_neg h1, if_neg h2, if_neg h3, if_neg h4, if_neg h5, if_pos h6, if_pos h9, if_neg h10]; done) | (simp only [if_neg h1, if_neg h2, if_neg h3, if_neg h4, if_neg h5, if_pos h6, if_pos h9, if_neg h10]; rfl))
          ·
            refine rx_aload_n C.1 (pc := 170) d_Mod_deliver_170 rfl ?_
            refine rx_iload_n C.1 (pc := 171) d_Mod_deliver_171 rfl ?_
            refine rx_iload_n C.1 (pc := 172) d_Mod_deliver_172 rfl ?_
            refine q_Mod_156 D b ca C (pc := 173) d_Mod_deliver_173 (c_Mod_requestAtForeign l D b ca (by first | assumption | exact rx_iM0 | exact rx_iM1 | (constructor <;> omega)) (by first | assumption | exact rx_iM0 | exact rx_iM1 | (constructor <;> omega))) ⟨Nat.le_of_ble_eq_true rfl, Nat.le_of_ble_eq_true rfl⟩ ⟨Nat.zero_le _, Nat.zero_le _⟩ (Nat.le_of_ble_eq_true rfl) ?_
            refine rx_nm (fun m5 e5 => ?_)
            refine rx_aload_n C.1 (pc := 176) d_Mod_deliver_176 rfl ?_
            refine g_Mod_13 D b ca C (pc := 177) d_Mod_deliver_177 ?_
            refine rx_iconst C.1 (v := 0) (pc := 180) d_Mod_deliver_180 (by decide) ?_
            refine rx_iald C (i := 73) (n := 9) (pc := 181) d_Mod_deliver_181 (rx_lt (by decide)) rfl (by first | assumption | exact rx_in2 (by assumption) | exact rx_v02 | exact rx_v12 | exact vp_in_iff.mpr (by decide) | exact fa_in (by assumption) (by assumption) | exact fa_in (by assumption) rx_iM0 | exact fa_in (by assumption) rx_iM1) ?_
            refine rx_iconst C.1 (v := 3) (pc := 182) d_Mod_deliver_182 (by decide) ?_
            refine rx_icmp_ne C.1 (pc := 183) d_Mod_deliver_183 (tgt := 192) rfl (fun h11 => ?_) (fun h11 => ?_)
            ·
              refine rx_aload_n C.1 (pc := 192) d_Mod_deliver_192 rfl ?_
              refine g_Mod_13 D b ca C (pc := 193) d_Mod_deliver_193 ?_
              refine rx_iconst C.1 (v := 0) (pc := 196) d_Mod_deliver_196 (by decide) ?_
              refine rx_iald C (i := 73) (n := 9) (pc := 197) d_Mod_deliver_197 (rx_lt (by decide)) rfl (by first | assumption | exact rx_in2 (by assumption) | exact rx_v02 | exact rx_v12 | exact vp_in_iff.mpr (by decide) | exact fa_in (by assumption) (by assumption) | exact fa_in (by assumption) rx_iM0 | exact fa_in (by assumption) rx_iM1) ?_
              refine rx_iconst C.1 (v := 5) (pc := 198) d_Mod_deliver_198 (by decide) ?_
              refine rx_icmp_ne C.1 (pc := 199) d_Mod_deliver_199 (tgt := 237) rfl (fun h12 => ?_) (fun h12 => ?_)
              ·
                refine rx_iconst C.1 (v := 1) (pc := 237) d_Mod_deliver_237 (by decide) ?_
                exact rx_zret C (pc := 238) d_Mod_deliver_238 (Or.inr rfl) (by subst e5 e1; unfold sp_Mod_deliver; first | (simp only [if_neg h1, if_neg h2, if_neg h3, if_neg h4, if_pos h5, if_neg h11, if_neg h12]; done) | (simp only [if_neg h1, if_neg h2, if_neg h3, if_neg h4, if_pos h5, if_neg h11, if_neg h12]; rfl)) (by subst e5 e1; unfold sp_Mod_deliver; first | (simp only [if_neg h1, if_neg h2, if_neg h3, if_neg h4, if_pos h5, if_neg h11, if_neg h12]; done) | (simp only [if_neg h1, if_neg h2, if_neg h3, if_neg h4, if_pos h5, if_neg h11, if_neg h12]; rfl))
              ·
                refine rx_aload_n C.1 (pc := 202) d_Mod_deliver_202 rfl ?_
                refine g_Mod_113 D b ca C (pc := 203) d_Mod_deliver_203 ?_
                refine rx_aload_n C.1 (pc := 206) d_Mod_deliver_206 rfl ?_
                refine g_Mod_61 D b ca C (pc := 207) d_Mod_deliver_207 ?_
                refine rx_iconst C.1 (v := 2) (pc := 210) d_Mod_deliver_210 (by decide) ?_
                refine rx_iload_n C.1 (pc := 211) d_Mod_deliver_211 rfl ?_
                refine rx_imul C.1 (pc := 212) d_Mod_deliver_212 ?_
                refine rx_iload_n C.1 (pc := 213) d_Mod_deliver_213 rfl ?_
                refine rx_iadd C.1 (pc := 214) d_Mod_deliver_214 ?_
                refine rx_iald C (i := 89) (n := 8) (pc := 215) d_Mod_deliver_215 (rx_lt (by decide)) rfl (by first | assumption | exact rx_in2 (by assumption) | exact rx_v02 | exact rx_v12 | exact vp_in_iff.mpr (by decide) | exact fa_in (by assumption) (by assumption) | exact fa_in (by assumption) rx_iM0 | exact fa_in (by assumption) rx_iM1) ?_
                refine rx_icmp_ge C.1 (pc := 216) d_Mod_deliver_216 (tgt := 237) rfl (fun h13 => ?_) (fun h13 => ?_)
                ·
                  refine rx_iconst C.1 (v := 1) (pc := 237) d_Mod_deliver_237 (by decide) ?_
                  exact rx_zret C (pc := 238) d_Mod_deliver_238 (Or.inr rfl) (by subst e5 e1; unfold sp_Mod_deliver; first | (simp only [if_neg h1, if_neg h2, if_neg h3, if_neg h4, if_pos h5, if_neg h11, if_pos h12, if_pos h13]; done) | (simp only [if_neg h1, if_neg h2, if_neg h3, if_neg h4, if_pos h5, if_neg h11, if_pos h12, if_pos h13]; rfl)) (by subst e5 e1; unfold sp_Mod_deliver; first | (simp only [if_neg h1, if_neg h2, if_neg h3, if_neg h4, if_pos h5, if_neg h11, if_pos h12, if_pos h13]; done) | (simp only [if_neg h1, if_neg h2, if_neg h3, if_neg h4, if_pos h5, if_neg h11, if_pos h12, if_pos h13]; rfl))
                ·
                  refine rx_aload_n C.1 (pc := 219) d_Mod_deliver_219 rfl ?_
                  refine rx_iconst C.1 (v := 4) (pc := 220) d_Mod_deliver_220 (by decide) ?_
                  refine rx_iconst C.1 (v := 5) (pc := 221) d_Mod_deliver_221 (by decide) ?_
                  refine rx_iload_n C.1 (pc := 222) d_Mod_deliver_222 rfl ?_
                  refine rx_iload_n C.1 (pc := 223) d_Mod_deliver_223 rfl ?_
                  refine rx_aload_n C.1 (pc := 224) d_Mod_deliver_224 rfl ?_
                  refine g_Mod_13 D b ca C (pc := 225) d_Mod_deliver_225 ?_
                  refine rx_iconst C.1 (v := 4) (pc := 228) d_Mod_deliver_228 (by decide) ?_
                  refine rx_iald C (i := 73) (n := 9) (pc := 229) d_Mod_deliver_229 (rx_lt (by decide)) rfl (by first | assumption | exact rx_in2 (by assumption) | exact rx_v02 | exact rx_v12 | exact vp_in_iff.mpr (by decide) | exact fa_in (by assumption) (by assumption) | exact fa_in (by assumption) rx_iM0 | exact fa_in (by assumption) rx_iM1) ?_
                  refine rx_iconst C.1 (v := 0) (pc := 230) d_Mod_deliver_230 (by decide) ?_
                  refine rx_iconst C.1 (v := 0) (pc := 231) d_Mod_deliver_231 (by decide) ?_
                  refine rx_iconst C.1 (v := 0) (pc := 232) d_Mod_deliver_232 (by decide) ?_
                  refine rx_iconst C.1 (v := 0) (pc := 233) d_Mod_deliver_233 (by decide) ?_
                  refine q_Mod_109 D b ca C (pc := 234) d_Mod_deliver_234 (c_Mod_send l D b ca ) ⟨Nat.le_of_ble_eq_true rfl, Nat.le_of_ble_eq_true rfl⟩ ⟨Nat.zero_le _, Nat.zero_le _⟩ (Nat.le_of_ble_eq_true rfl) ?_
                  refine rx_nm (fun m6 e6 => ?_)
                  refine rx_iconst C.1 (v := 1) (pc := 237) d_Mod_deliver_237 (by decide) ?_
                  exact rx_zret C (pc := 238) d_Mod_deliver_238 (Or.inr rfl) (by subst e6 e5 e1; unfold sp_Mod_deliver; first | (simp only [if_neg h1, if_neg h2, if_neg h3, if_neg h4, if_pos h5, if_neg h11, if_pos h12, if_neg h13]; done) | (simp only [if_neg h1, if_neg h2, if_neg h3, if_neg h4, if_pos h5, if_neg h11, if_pos h12, if_neg h13]; rfl)) (by subst e6 e5 e1; unfold sp_Mod_deliver; first | (simp only [if_neg h1, if_neg h2, if_neg h3, if_neg h4, if_pos h5, if_neg h11, if_pos h12, if_neg h13]; done) | (simp only [if_neg h1, if_neg h2, if_neg h3, if_neg h4, if_pos h5, if_neg h11, if_pos h12, if_neg h13]; rfl))
            ·
              refine rx_aload_n C.1 (pc := 186) d_Mod_deliver_186 rfl ?_
              refine rx_iload_n C.1 (pc := 187) d_Mod_deliver_187 rfl ?_
              refine rx_iload_n C.1 (pc := 188) d_Mod_deliver_188 rfl ?_
              refine q_Mod_159 D b ca C (pc := 189) d_Mod_deliver_189 (c_Mod_replyAtForeign l D b ca (by first | assumption | exact rx_iM0 | exact rx_iM1 | (constructor <;> omega)) (by first | assumption | exact rx_iM0 | exact rx_iM1 | (constructor <;> omega))) ⟨Nat.le_of_ble_eq_true rfl, Nat.le_of_ble_eq_true rfl⟩ ⟨Nat.zero_le _, Nat.zero_le _⟩ (Nat.le_of_ble_eq_true rfl) ?_
              refine rx_nm (fun m7 e7 => ?_)
              refine rx_aload_n C.1 (pc := 192) d_Mod_deliver_192 rfl ?_
              refine g_Mod_13 D b ca C (pc := 193) d_Mod_deliver_193 ?_
              refine rx_iconst C.1 (v := 0) (pc := 196) d_Mod_deliver_196 (by decide) ?_
              refine rx_iald C (i := 73) (n := 9) (pc := 197) d_Mod_deliver_197 (rx_lt (by decide)) rfl (by first | assumption | exact rx_in2 (by assumption) | exact rx_v02 | exact rx_v12 | exact vp_in_iff.mpr (by decide) | exact fa_in (by assumption) (by assumption) | exact fa_in (by assumption) rx_iM0 | exact fa_in (by assumption) rx_iM1) ?_
              refine rx_iconst C.1 (v := 5) (pc := 198) d_Mod_deliver_198 (by decide) ?_
              refine rx_icmp_ne C.1 (pc := 199) d_Mod_deliver_199 (tgt := 237) rfl (fun h14 => ?_) (fun h14 => ?_)
              ·
                refine rx_iconst C.1 (v := 1) (pc := 237) d_Mod_deliver_237 (by decide) ?_
                exact rx_zret C (pc := 238) d_Mod_deliver_238 (Or.inr rfl) (by subst e7 e5 e1; unfold sp_Mod_deliver; first | (simp only [if_neg h1, if_neg h2, if_neg h3, if_neg h4, if_pos h5, if_pos h11, if_neg h14]; done) | (simp only [if_neg h1, if_neg h2, if_neg h3, if_neg h4, if_pos h5, if_pos h11, if_neg h14]; rfl)) (by subst e7 e5 e1; unfold sp_Mod_deliver; first | (simp only [if_neg h1, if_neg h2, if_neg h3, if_neg h4, if_pos h5, if_pos h11, if_neg h14]; done) | (simp only [if_neg h1, if_neg h2, if_neg h3, if_neg h4, if_pos h5, if_pos h11, if_neg h14]; rfl))
              ·
                refine rx_aload_n C.1 (pc := 202) d_Mod_deliver_202 rfl ?_
                refine g_Mod_113 D b ca C (pc := 203) d_Mod_deliver_203 ?_
                refine rx_aload_n C.1 (pc := 206) d_Mod_deliver_206 rfl ?_
                refine g_Mod_61 D b ca C (pc := 207) d_Mod_deliver_207 ?_
                refine rx_iconst C.1 (v := 2) (pc := 210) d_Mod_deliver_210 (by decide) ?_
                refine rx_iload_n C.1 (pc := 211) d_Mod_deliver_211 rfl ?_
                refine rx_imul C.1 (pc := 212) d_Mod_deliver_212 ?_
                refine rx_iload_n C.1 (pc := 213) d_Mod_deliver_213 rfl ?_
                refine rx_iadd C.1 (pc := 214) d_Mod_deliver_214 ?_
                refine rx_iald C (i := 89) (n := 8) (pc := 215) d_Mod_deliver_215 (rx_lt (by decide)) rfl (by first | assumption | exact rx_in2 (by assumption) | exact rx_v02 | exact rx_v12 | exact vp_in_iff.mpr (by decide) | exact fa_in (by assumption) (by assumption) | exact fa_in (by assumption) rx_iM0 | exact fa_in (by assumption) rx_iM1) ?_
                refine rx_icmp_ge C.1 (pc := 216) d_Mod_deliver_216 (tgt := 237) rfl (fun h15 => ?_) (fun h15 => ?_)
                ·
                  refine rx_iconst C.1 (v := 1) (pc := 237) d_Mod_deliver_237 (by decide) ?_
                  exact rx_zret C (pc := 238) d_Mod_deliver_238 (Or.inr rfl) (by subst e7 e5 e1; unfold sp_Mod_deliver; first | (simp only [if_neg h1, if_neg h2, if_neg h3, if_neg h4, if_pos h5, if_pos h11, if_pos h14, if_pos h15]; done) | (simp only [if_neg h1, if_neg h2, if_neg h3, if_neg h4, if_pos h5, if_pos h11, if_pos h14, if_pos h15]; rfl)) (by subst e7 e5 e1; unfold sp_Mod_deliver; first | (simp only [if_neg h1, if_neg h2, if_neg h3, if_neg h4, if_pos h5, if_pos h11, if_pos h14, if_pos h15]; done) | (simp only [if_neg h1, if_neg h2, if_neg h3, if_neg h4, if_pos h5, if_pos h11, if_pos h14, if_pos h15]; rfl))
                ·
                  refine rx_aload_n C.1 (pc := 219) d_Mod_deliver_219 rfl ?_
                  refine rx_iconst C.1 (v := 4) (pc := 220) d_Mod_deliver_220 (by decide) ?_
                  refine rx_iconst C.1 (v := 5) (pc := 221) d_Mod_deliver_221 (by decide) ?_
                  refine rx_iload_n C.1 (pc := 222) d_Mod_deliver_222 rfl ?_
                  refine rx_iload_n C.1 (pc := 223) d_Mod_deliver_223 rfl ?_
                  refine rx_aload_n C.1 (pc := 224) d_Mod_deliver_224 rfl ?_
                  refine g_Mod_13 D b ca C (pc := 225) d_Mod_deliver_225 ?_
                  refine rx_iconst C.1 (v := 4) (pc := 228) d_Mod_deliver_228 (by decide) ?_
                  refine rx_iald C (i := 73) (n := 9) (pc := 229) d_Mod_deliver_229 (rx_lt (by decide)) rfl (by first | assumption | exact rx_in2 (by assumption) | exact rx_v02 | exact rx_v12 | exact vp_in_iff.mpr (by decide) | exact fa_in (by assumption) (by assumption) | exact fa_in (by assumption) rx_iM0 | exact fa_in (by assumption) rx_iM1) ?_
                  refine rx_iconst C.1 (v := 0) (pc := 230) d_Mod_deliver_230 (by decide) ?_
                  refine rx_iconst C.1 (v := 0) (pc := 231) d_Mod_deliver_231 (by decide) ?_
                  refine rx_iconst C.1 (v := 0) (pc := 232) d_Mod_deliver_232 (by decide) ?_
                  refine rx_iconst C.1 (v := 0) (pc := 233) d_Mod_deliver_233 (by decide) ?_
                  refine q_Mod_109 D b ca C (pc := 234) d_Mod_deliver_234 (c_Mod_send l D b ca ) ⟨Nat.le_of_ble_eq_true rfl, Nat.le_of_ble_eq_true rfl⟩ ⟨Nat.zero_le _, Nat.zero_le _⟩ (Nat.le_of_ble_eq_true rfl) ?_
                  refine rx_nm (fun m8 e8 => ?_)
                  refine rx_iconst C.1 (v := 1) (pc := 237) d_Mod_deliver_237 (by decide) ?_
                  exact rx_zret C (pc := 238) d_Mod_deliver_238 (Or.inr rfl) (by subst e8 e7 e5 e1; unfold sp_Mod_deliver; first | (simp only [if_neg h1, if_neg h2, if_neg h3, if_neg h4, if_pos h5, if_pos h11, if_pos h14, if_neg h15]; done) | (simp only [if_neg h1, if_neg h2, if_neg h3, if_neg h4, if_pos h5, if_pos h11, if_pos h14, if_neg h15]; rfl)) (by subst e8 e7 e5 e1; unfold sp_Mod_deliver; first | (simp only [if_neg h1, if_neg h2, if_neg h3, if_neg h4, if_pos h5, if_pos h11, if_pos h14, if_neg h15]; done) | (simp only [if_neg h1, if_neg h2, if_neg h3, if_neg h4, if_pos h5, if_pos h11, if_pos h14, if_neg h15]; rfl))
        ·
          refine rx_aload_n C.1 (pc := 127) d_Mod_deliver_127 rfl ?_
          refine g_Mod_13 D b ca C (pc := 128) d_Mod_deliver_128 ?_
          refine rx_iconst C.1 (v := 0) (pc := 131) d_Mod_deliver_131 (by decide) ?_
          refine rx_iald C (i := 73) (n := 9) (pc := 132) d_Mod_deliver_132 (rx_lt (by decide)) rfl (by first | assumption | exact rx_in2 (by assumption) | exact rx_v02 | exact rx_v12 | exact vp_in_iff.mpr (by decide) | exact fa_in (by assumption) (by assumption) | exact fa_in (by assumption) rx_iM0 | exact fa_in (by assumption) rx_iM1) ?_
          refine rx_iconst C.1 (v := 2) (pc := 133) d_Mod_deliver_133 (by decide) ?_
          refine rx_icmp_ne C.1 (pc := 134) d_Mod_deliver_134 (tgt := 142) rfl (fun h16 => ?_) (fun h16 => ?_)
          ·
            refine rx_aload_n C.1 (pc := 142) d_Mod_deliver_142 rfl ?_
            refine g_Mod_13 D b ca C (pc := 143) d_Mod_deliver_143 ?_
            refine rx_iconst C.1 (v := 0) (pc := 146) d_Mod_deliver_146 (by decide) ?_
            refine rx_iald C (i := 73) (n := 9) (pc := 147) d_Mod_deliver_147 (rx_lt (by decide)) rfl (by first | assumption | exact rx_in2 (by assumption) | exact rx_v02 | exact rx_v12 | exact vp_in_iff.mpr (by decide) | exact fa_in (by assumption) (by assumption) | exact fa_in (by assumption) rx_iM0 | exact fa_in (by assumption) rx_iM1) ?_
            refine rx_iconst C.1 (v := 4) (pc := 148) d_Mod_deliver_148 (by decide) ?_
            refine rx_icmp_ne C.1 (pc := 149) d_Mod_deliver_149 (tgt := 237) rfl (fun h17 => ?_) (fun h17 => ?_)
            ·
              refine rx_iconst C.1 (v := 1) (pc := 237) d_Mod_deliver_237 (by decide) ?_
              exact rx_zret C (pc := 238) d_Mod_deliver_238 (Or.inr rfl) (by subst e1; unfold sp_Mod_deliver; first | (simp only [if_neg h1, if_neg h2, if_neg h3, if_pos h4, if_neg h16, if_neg h17]; done) | (simp only [if_neg h1, if_neg h2, if_neg h3, if_pos h4, if_neg h16, if_neg h17]; rfl)) (by subst e1; unfold sp_Mod_deliver; first | (simp only [if_neg h1, if_neg h2, if_neg h3, if_pos h4, if_neg h16, if_neg h17]; done) | (simp only [if_neg h1, if_neg h2, if_neg h3, if_pos h4, if_neg h16, if_neg h17]; rfl))
            ·
              refine rx_aload_n C.1 (pc := 152) d_Mod_deliver_152 rfl ?_
              refine rx_iload_n C.1 (pc := 153) d_Mod_deliver_153 rfl ?_
              refine q_Mod_153 D b ca C (pc := 154) d_Mod_deliver_154 (c_Mod_dataAtHome l D b ca (by first | assumption | exact rx_iM0 | exact rx_iM1 | (constructor <;> omega))) ⟨Nat.le_of_ble_eq_true rfl, Nat.le_of_ble_eq_true rfl⟩ ⟨Nat.zero_le _, Nat.zero_le _⟩ (Nat.le_of_ble_eq_true rfl) ?_
              refine rx_nm (fun m9 e9 => ?_)
              refine rx_goto C.1 (pc := 157) d_Mod_deliver_157 (tgt := 237) rfl ?_
              refine rx_iconst C.1 (v := 1) (pc := 237) d_Mod_deliver_237 (by decide) ?_
              exact rx_zret C (pc := 238) d_Mod_deliver_238 (Or.inr rfl) (by subst e9 e1; unfold sp_Mod_deliver; first | (simp only [if_neg h1, if_neg h2, if_neg h3, if_pos h4, if_neg h16, if_pos h17]; done) | (simp only [if_neg h1, if_neg h2, if_neg h3, if_pos h4, if_neg h16, if_pos h17]; rfl)) (by subst e9 e1; unfold sp_Mod_deliver; first | (simp only [if_neg h1, if_neg h2, if_neg h3, if_pos h4, if_neg h16, if_pos h17]; done) | (simp only [if_neg h1, if_neg h2, if_neg h3, if_pos h4, if_neg h16, if_pos h17]; rfl))
          ·
            refine rx_aload_n C.1 (pc := 137) d_Mod_deliver_137 rfl ?_
            refine rx_iload_n C.1 (pc := 138) d_Mod_deliver_138 rfl ?_
            refine q_Mod_150 D b ca C (pc := 139) d_Mod_deliver_139 (c_Mod_requestAtHome l D b ca (by first | assumption | exact rx_iM0 | exact rx_iM1 | (constructor <;> omega))) ⟨Nat.le_of_ble_eq_true rfl, Nat.le_of_ble_eq_true rfl⟩ ⟨Nat.zero_le _, Nat.zero_le _⟩ (Nat.le_of_ble_eq_true rfl) ?_
            refine rx_nm (fun m10 e10 => ?_)
            refine rx_aload_n C.1 (pc := 142) d_Mod_deliver_142 rfl ?_
            refine g_Mod_13 D b ca C (pc := 143) d_Mod_deliver_143 ?_
            refine rx_iconst C.1 (v := 0) (pc := 146) d_Mod_deliver_146 (by decide) ?_
            refine rx_iald C (i := 73) (n := 9) (pc := 147) d_Mod_deliver_147 (rx_lt (by decide)) rfl (by first | assumption | exact rx_in2 (by assumption) | exact rx_v02 | exact rx_v12 | exact vp_in_iff.mpr (by decide) | exact fa_in (by assumption) (by assumption) | exact fa_in (by assumption) rx_iM0 | exact fa_in (by assumption) rx_iM1) ?_
            refine rx_iconst C.1 (v := 4) (pc := 148) d_Mod_deliver_148 (by decide) ?_
            refine rx_icmp_ne C.1 (pc := 149) d_Mod_deliver_149 (tgt := 237) rfl (fun h18 => ?_) (fun h18 => ?_)
            ·
              refine rx_iconst C.1 (v := 1) (pc := 237) d_Mod_deliver_237 (by decide) ?_
              exact rx_zret C (pc := 238) d_Mod_deliver_238 (Or.inr rfl) (by subst e10 e1; unfold sp_Mod_deliver; first | (simp only [if_neg h1, if_neg h2, if_neg h3, if_pos h4, if_pos h16, if_neg h18]; done) | (simp only [if_neg h1, if_neg h2, if_neg h3, if_pos h4, if_pos h16, if_neg h18]; rfl)) (by subst e10 e1; unfold sp_Mod_deliver; first | (simp only [if_neg h1, if_neg h2, if_neg h3, if_pos h4, if_pos h16, if_neg h18]; done) | (simp only [if_neg h1, if_neg h2, if_neg h3, if_pos h4, if_pos h16, if_neg h18]; rfl))
            ·
              refine rx_aload_n C.1 (pc := 152) d_Mod_deliver_152 rfl ?_
              refine rx_iload_n C.1 (pc := 153) d_Mod_deliver_153 rfl ?_
              refine q_Mod_153 D b ca C (pc := 154) d_Mod_deliver_154 (c_Mod_dataAtHome l D b ca (by first | assumption | exact rx_iM0 | exact rx_iM1 | (constructor <;> omega))) ⟨Nat.le_of_ble_eq_true rfl, Nat.le_of_ble_eq_true rfl⟩ ⟨Nat.zero_le _, Nat.zero_le _⟩ (Nat.le_of_ble_eq_true rfl) ?_
              refine rx_nm (fun m11 e11 => ?_)
              refine rx_goto C.1 (pc := 157) d_Mod_deliver_157 (tgt := 237) rfl ?_
              refine rx_iconst C.1 (v := 1) (pc := 237) d_Mod_deliver_237 (by decide) ?_
              exact rx_zret C (pc := 238) d_Mod_deliver_238 (Or.inr rfl) (by subst e11 e10 e1; unfold sp_Mod_deliver; first | (simp only [if_neg h1, if_neg h2, if_neg h3, if_pos h4, if_pos h16, if_pos h18]; done) | (simp only [if_neg h1, if_neg h2, if_neg h3, if_pos h4, if_pos h16, if_pos h18]; rfl)) (by subst e11 e10 e1; unfold sp_Mod_deliver; first | (simp only [if_neg h1, if_neg h2, if_neg h3, if_pos h4, if_pos h16, if_pos h18]; done) | (simp only [if_neg h1, if_neg h2, if_neg h3, if_pos h4, if_pos h16, if_pos h18]; rfl))
      ·
        refine rx_aload_n C.1 (pc := 115) d_Mod_deliver_115 rfl ?_
        refine rx_iload_n C.1 (pc := 116) d_Mod_deliver_116 rfl ?_
        refine q_Mod_147 D b ca C (pc := 117) d_Mod_deliver_117 (c_Mod_ack l D b ca (by first | assumption | exact rx_iM0 | exact rx_iM1 | (constructor <;> omega))) ⟨Nat.le_of_ble_eq_true rfl, Nat.le_of_ble_eq_true rfl⟩ ⟨Nat.zero_le _, Nat.zero_le _⟩ (Nat.le_of_ble_eq_true rfl) ?_
        refine rx_nm (fun m12 e12 => ?_)
        refine rx_goto C.1 (pc := 120) d_Mod_deliver_120 (tgt := 237) rfl ?_
        refine rx_iconst C.1 (v := 1) (pc := 237) d_Mod_deliver_237 (by decide) ?_
        exact rx_zret C (pc := 238) d_Mod_deliver_238 (Or.inr rfl) (by subst e12 e1; unfold sp_Mod_deliver; first | (simp only [if_neg h1, if_neg h2, if_pos h3]; done) | (simp only [if_neg h1, if_neg h2, if_pos h3]; rfl)) (by subst e12 e1; unfold sp_Mod_deliver; first | (simp only [if_neg h1, if_neg h2, if_pos h3]; done) | (simp only [if_neg h1, if_neg h2, if_pos h3]; rfl))
    ·
      refine rx_aload_n C.1 (pc := 34) d_Mod_deliver_34 rfl ?_
      refine g_Mod_16 D b ca C (pc := 35) d_Mod_deliver_35 ?_
      refine rx_iload_n C.1 (pc := 38) d_Mod_deliver_38 rfl ?_
      refine rx_iald C (i := 74) (n := 2) (pc := 39) d_Mod_deliver_39 (rx_lt (by decide)) rfl (by first | assumption | exact rx_in2 (by assumption) | exact rx_v02 | exact rx_v12 | exact vp_in_iff.mpr (by decide) | exact fa_in (by assumption) (by assumption) | exact fa_in (by assumption) rx_iM0 | exact fa_in (by assumption) rx_iM1) ?_
      refine rx_aload_n C.1 (pc := 40) d_Mod_deliver_40 rfl ?_
      refine g_Mod_13 D b ca C (pc := 41) d_Mod_deliver_41 ?_
      refine rx_iconst C.1 (v := 3) (pc := 44) d_Mod_deliver_44 (by decide) ?_
      refine rx_iald C (i := 73) (n := 9) (pc := 45) d_Mod_deliver_45 (rx_lt (by decide)) rfl (by first | assumption | exact rx_in2 (by assumption) | exact rx_v02 | exact rx_v12 | exact vp_in_iff.mpr (by decide) | exact fa_in (by assumption) (by assumption) | exact fa_in (by assumption) rx_iM0 | exact fa_in (by assumption) rx_iM1) ?_
      refine rx_icmp_eq C.1 (pc := 46) d_Mod_deliver_46 (tgt := 51) rfl (fun h19 => ?_) (fun h19 => ?_)
      ·
        refine rx_iload_n C.1 (pc := 51) d_Mod_deliver_51 rfl ?_
        refine rx_iconst C.1 (v := 5) (pc := 52) d_Mod_deliver_52 (by decide) ?_
        refine rx_icmp_ne C.1 (pc := 53) d_Mod_deliver_53 (tgt := 110) rfl (fun h9 => absurd h2 h9) (fun _ => ?_)
        refine rx_aload_n C.1 (pc := 56) d_Mod_deliver_56 rfl ?_
        refine g_Mod_13 D b ca C (pc := 57) d_Mod_deliver_57 ?_
        refine rx_iconst C.1 (v := 0) (pc := 60) d_Mod_deliver_60 (by decide) ?_
        refine rx_iald C (i := 73) (n := 9) (pc := 61) d_Mod_deliver_61 (rx_lt (by decide)) rfl (by first | assumption | exact rx_in2 (by assumption) | exact rx_v02 | exact rx_v12 | exact vp_in_iff.mpr (by decide) | exact fa_in (by assumption) (by assumption) | exact fa_in (by assumption) rx_iM0 | exact fa_in (by assumption) rx_iM1) ?_
        refine rx_iconst C.1 (v := 1) (pc := 62) d_Mod_deliver_62 (by decide) ?_
        refine rx_icmp_ne C.1 (pc := 63) d_Mod_deliver_63 (tgt := 77) rfl (fun h20 => ?_) (fun h20 => ?_)
        ·
          refine rx_aload_n C.1 (pc := 77) d_Mod_deliver_77 rfl ?_
          refine g_Mod_13 D b ca C (pc := 78) d_Mod_deliver_78 ?_
          refine rx_iconst C.1 (v := 0) (pc := 81) d_Mod_deliver_81 (by decide) ?_
          refine rx_iald C (i := 73) (n := 9) (pc := 82) d_Mod_deliver_82 (rx_lt (by decide)) rfl (by first | assumption | exact rx_in2 (by assumption) | exact rx_v02 | exact rx_v12 | exact vp_in_iff.mpr (by decide) | exact fa_in (by assumption) (by assumption) | exact fa_in (by assumption) rx_iM0 | exact fa_in (by assumption) rx_iM1) ?_
          refine rx_iconst C.1 (v := 3) (pc := 83) d_Mod_deliver_83 (by decide) ?_
          refine rx_icmp_ne C.1 (pc := 84) d_Mod_deliver_84 (tgt := 92) rfl (fun h21 => ?_) (fun h21 => ?_)
          ·
            refine rx_aload_n C.1 (pc := 92) d_Mod_deliver_92 rfl ?_
            refine g_Mod_13 D b ca C (pc := 93) d_Mod_deliver_93 ?_
            refine rx_iconst C.1 (v := 0) (pc := 96) d_Mod_deliver_96 (by decide) ?_
            refine rx_iald C (i := 73) (n := 9) (pc := 97) d_Mod_deliver_97 (rx_lt (by decide)) rfl (by first | assumption | exact rx_in2 (by assumption) | exact rx_v02 | exact rx_v12 | exact vp_in_iff.mpr (by decide) | exact fa_in (by assumption) (by assumption) | exact fa_in (by assumption) rx_iM0 | exact fa_in (by assumption) rx_iM1) ?_
            refine rx_iconst C.1 (v := 4) (pc := 98) d_Mod_deliver_98 (by decide) ?_
            refine rx_icmp_ne C.1 (pc := 99) d_Mod_deliver_99 (tgt := 237) rfl (fun h22 => ?_) (fun h22 => ?_)
            ·
              refine rx_iconst C.1 (v := 1) (pc := 237) d_Mod_deliver_237 (by decide) ?_
              exact rx_zret C (pc := 238) d_Mod_deliver_238 (Or.inr rfl) (by subst e1; unfold sp_Mod_deliver; first | (simp only [if_neg h1, if_pos h2, if_pos h19, if_neg h20, if_neg h21, if_neg h22]; done) | (simp only [if_neg h1, if_pos h2, if_pos h19, if_neg h20, if_neg h21, if_neg h22]; rfl)) (by subst e1; unfold sp_Mod_deliver; first | (simp only [if_neg h1, if_pos h2, if_pos h19, if_neg h20, if_neg h21, if_neg h22]; done) | (simp only [if_neg h1, if_pos h2, if_pos h19, if_neg h20, if_neg h21, if_neg h22]; rfl))
            ·
              refine rx_aload_n C.1 (pc := 102) d_Mod_deliver_102 rfl ?_
              refine rx_iload_n C.1 (pc := 103) d_Mod_deliver_103 rfl ?_
              refine q_Mod_144 D b ca C (pc := 104) d_Mod_deliver_104 (c_Mod_dataAtMobile l D b ca (by first | assumption | exact rx_iM0 | exact rx_iM1 | (constructor <;> omega))) ⟨Nat.le_of_ble_eq_true rfl, Nat.le_of_ble_eq_true rfl⟩ ⟨Nat.zero_le _, Nat.zero_le _⟩ (Nat.le_of_ble_eq_true rfl) ?_
              refine rx_nm (fun m13 e13 => ?_)
              refine rx_goto C.1 (pc := 107) d_Mod_deliver_107 (tgt := 237) rfl ?_
              refine rx_iconst C.1 (v := 1) (pc := 237) d_Mod_deliver_237 (by decide) ?_
              exact rx_zret C (pc := 238) d_Mod_deliver_238 (Or.inr rfl) (by subst e13 e1; unfold sp_Mod_deliver; first | (simp only [if_neg h1, if_pos h2, if_pos h19, if_neg h20, if_neg h21, if_pos h22]; done) | (simp only [if_neg h1, if_pos h2, if_pos h19, if_neg h20, if_neg h21, if_pos h22]; rfl)) (by subst e13 e1; unfold sp_Mod_deliver; first | (simp only [if_neg h1, if_pos h2, if_pos h19, if_neg h20, if_neg h21, if_pos h22]; done) | (simp only [if_neg h1, if_pos h2, if_pos h19, if_neg h20, if_neg h21, if_pos h22]; rfl))
          ·
            refine rx_aload_n C.1 (pc := 87) d_Mod_deliver_87 rfl ?_
            refine rx_iload_n C.1 (pc := 88) d_Mod_deliver_88 rfl ?_
            refine q_Mod_141 D b ca C (pc := 89) d_Mod_deliver_89 (c_Mod_replyAtMobile l D b ca (by first | assumption | exact rx_iM0 | exact rx_iM1 | (constructor <;> omega))) ⟨Nat.le_of_ble_eq_true rfl, Nat.le_of_ble_eq_true rfl⟩ ⟨Nat.zero_le _, Nat.zero_le _⟩ (Nat.le_of_ble_eq_true rfl) ?_
            refine rx_nm (fun m14 e14 => ?_)
            refine rx_aload_n C.1 (pc := 92) d_Mod_deliver_92 rfl ?_
            refine g_Mod_13 D b ca C (pc := 93) d_Mod_deliver_93 ?_
            refine rx_iconst C.1 (v := 0) (pc := 96) d_Mod_deliver_96 (by decide) ?_
            refine rx_iald C (i := 73) (n := 9) (pc := 97) d_Mod_deliver_97 (rx_lt (by decide)) rfl (by first | assumption | exact rx_in2 (by assumption) | exact rx_v02 | exact rx_v12 | exact vp_in_iff.mpr (by decide) | exact fa_in (by assumption) (by assumption) | exact fa_in (by assumption) rx_iM0 | exact fa_in (by assumption) rx_iM1) ?_
            refine rx_iconst C.1 (v := 4) (pc := 98) d_Mod_deliver_98 (by decide) ?_
            refine rx_icmp_ne C.1 (pc := 99) d_Mod_deliver_99 (tgt := 237) rfl (fun h23 => ?_) (fun h23 => ?_)
            ·
              refine rx_iconst C.1 (v := 1) (pc := 237) d_Mod_deliver_237 (by decide) ?_
              exact rx_zret C (pc := 238) d_Mod_deliver_238 (Or.inr rfl) (by subst e14 e1; unfold sp_Mod_deliver; first | (simp only [if_neg h1, if_pos h2, if_pos h19, if_neg h20, if_pos h21, if_neg h23]; done) | (simp only [if_neg h1, if_pos h2, if_pos h19, if_neg h20, if_pos h21, if_neg h23]; rfl)) (by subst e14 e1; unfold sp_Mod_deliver; first | (simp only [if_neg h1, if_pos h2, if_pos h19, if_neg h20, if_pos h21, if_neg h23]; done) | (simp only [if_neg h1, if_pos h2, if_pos h19, if_neg h20, if_pos h21, if_neg h23]; rfl))
            ·
              refine rx_aload_n C.1 (pc := 102) d_Mod_deliver_102 rfl ?_
              refine rx_iload_n C.1 (pc := 103) d_Mod_deliver_103 rfl ?_
              refine q_Mod_144 D b ca C (pc := 104) d_Mod_deliver_104 (c_Mod_dataAtMobile l D b ca (by first | assumption | exact rx_iM0 | exact rx_iM1 | (constructor <;> omega))) ⟨Nat.le_of_ble_eq_true rfl, Nat.le_of_ble_eq_true rfl⟩ ⟨Nat.zero_le _, Nat.zero_le _⟩ (Nat.le_of_ble_eq_true rfl) ?_
              refine rx_nm (fun m15 e15 => ?_)
              refine rx_goto C.1 (pc := 107) d_Mod_deliver_107 (tgt := 237) rfl ?_
              refine rx_iconst C.1 (v := 1) (pc := 237) d_Mod_deliver_237 (by decide) ?_
              exact rx_zret C (pc := 238) d_Mod_deliver_238 (Or.inr rfl) (by subst e15 e14 e1; unfold sp_Mod_deliver; first | (simp only [if_neg h1, if_pos h2, if_pos h19, if_neg h20, if_pos h21, if_pos h23]; done) | (simp only [if_neg h1, if_pos h2, if_pos h19, if_neg h20, if_pos h21, if_pos h23]; rfl)) (by subst e15 e14 e1; unfold sp_Mod_deliver; first | (simp only [if_neg h1, if_pos h2, if_pos h19, if_neg h20, if_pos h21, if_pos h23]; done) | (simp only [if_neg h1, if_pos h2, if_pos h19, if_neg h20, if_pos h21, if_pos h23]; rfl))
        ·
          refine rx_aload_n C.1 (pc := 66) d_Mod_deliver_66 rfl ?_
          refine rx_iload_n C.1 (pc := 67) d_Mod_deliver_67 rfl ?_
          refine rx_aload_n C.1 (pc := 68) d_Mod_deliver_68 rfl ?_
          refine g_Mod_13 D b ca C (pc := 69) d_Mod_deliver_69 ?_
          refine rx_iconst C.1 (v := 4) (pc := 72) d_Mod_deliver_72 (by decide) ?_
          refine rx_iald C (i := 73) (n := 9) (pc := 73) d_Mod_deliver_73 (rx_lt (by decide)) rfl (by first | assumption | exact rx_in2 (by assumption) | exact rx_v02 | exact rx_v12 | exact vp_in_iff.mpr (by decide) | exact fa_in (by assumption) (by assumption) | exact fa_in (by assumption) rx_iM0 | exact fa_in (by assumption) rx_iM1) ?_
          refine q_Mod_138 D b ca C (pc := 74) d_Mod_deliver_74 (c_Mod_advert l D b ca (by first | assumption | exact rx_iM0 | exact rx_iM1 | (constructor <;> omega))) ⟨Nat.le_of_ble_eq_true rfl, Nat.le_of_ble_eq_true rfl⟩ ⟨Nat.zero_le _, Nat.zero_le _⟩ (Nat.le_of_ble_eq_true rfl) ?_
          refine rx_nm (fun m16 e16 => ?_)
          refine rx_aload_n C.1 (pc := 77) d_Mod_deliver_77 rfl ?_
          refine g_Mod_13 D b ca C (pc := 78) d_Mod_deliver_78 ?_
          refine rx_iconst C.1 (v := 0) (pc := 81) d_Mod_deliver_81 (by decide) ?_
          refine rx_iald C (i := 73) (n := 9) (pc := 82) d_Mod_deliver_82 (rx_lt (by decide)) rfl (by first | assumption | exact rx_in2 (by assumption) | exact rx_v02 | exact rx_v12 | exact vp_in_iff.mpr (by decide) | exact fa_in (by assumption) (by assumption) | exact fa_in (by assumption) rx_iM0 | exact fa_in (by assumption) rx_iM1) ?_
          refine rx_iconst C.1 (v := 3) (pc := 83) d_Mod_deliver_83 (by decide) ?_
          refine rx_icmp_ne C.1 (pc := 84) d_Mod_deliver_84 (tgt := 92) rfl (fun h24 => ?_) (fun h24 => ?_)
          ·
            refine rx_aload_n C.1 (pc := 92) d_Mod_deliver_92 rfl ?_
            refine g_Mod_13 D b ca C (pc := 93) d_Mod_deliver_93 ?_
            refine rx_iconst C.1 (v := 0) (pc := 96) d_Mod_deliver_96 (by decide) ?_
            refine rx_iald C (i := 73) (n := 9) (pc := 97) d_Mod_deliver_97 (rx_lt (by decide)) rfl (by first | assumption | exact rx_in2 (by assumption) | exact rx_v02 | exact rx_v12 | exact vp_in_iff.mpr (by decide) | exact fa_in (by assumption) (by assumption) | exact fa_in (by assumption) rx_iM0 | exact fa_in (by assumption) rx_iM1) ?_
            refine rx_iconst C.1 (v := 4) (pc := 98) d_Mod_deliver_98 (by decide) ?_
            refine rx_icmp_ne C.1 (pc := 99) d_Mod_deliver_99 (tgt := 237) rfl (fun h25 => ?_) (fun h25 => ?_)
            ·
              refine rx_iconst C.1 (v := 1) (pc := 237) d_Mod_deliver_237 (by decide) ?_
              exact rx_zret C (pc := 238) d_Mod_deliver_238 (Or.inr rfl) (by subst e16 e1; unfold sp_Mod_deliver; first | (simp only [if_neg h1, if_pos h2, if_pos h19, if_pos h20, if_neg h24, if_neg h25]; done) | (simp only [if_neg h1, if_pos h2, if_pos h19, if_pos h20, if_neg h24, if_neg h25]; rfl)) (by subst e16 e1; unfold sp_Mod_deliver; first | (simp only [if_neg h1, if_pos h2, if_pos h19, if_pos h20, if_neg h24, if_neg h25]; done) | (simp only [if_neg h1, if_pos h2, if_pos h19, if_pos h20, if_neg h24, if_neg h25]; rfl))
            ·
              refine rx_aload_n C.1 (pc := 102) d_Mod_deliver_102 rfl ?_
              refine rx_iload_n C.1 (pc := 103) d_Mod_deliver_103 rfl ?_
              refine q_Mod_144 D b ca C (pc := 104) d_Mod_deliver_104 (c_Mod_dataAtMobile l D b ca (by first | assumption | exact rx_iM0 | exact rx_iM1 | (constructor <;> omega))) ⟨Nat.le_of_ble_eq_true rfl, Nat.le_of_ble_eq_true rfl⟩ ⟨Nat.zero_le _, Nat.zero_le _⟩ (Nat.le_of_ble_eq_true rfl) ?_
              refine rx_nm (fun m17 e17 => ?_)
              refine rx_goto C.1 (pc := 107) d_Mod_deliver_107 (tgt := 237) rfl ?_
              refine rx_iconst C.1 (v := 1) (pc := 237) d_Mod_deliver_237 (by decide) ?_
              exact rx_zret C (pc := 238) d_Mod_deliver_238 (Or.inr rfl) (by subst e17 e16 e1; unfold sp_Mod_deliver; first | (simp only [if_neg h1, if_pos h2, if_pos h19, if_pos h20, if_neg h24, if_pos h25]; done) | (simp only [if_neg h1, if_pos h2, if_pos h19, if_pos h20, if_neg h24, if_pos h25]; rfl)) (by subst e17 e16 e1; unfold sp_Mod_deliver; first | (simp only [if_neg h1, if_pos h2, if_pos h19, if_pos h20, if_neg h24, if_pos h25]; done) | (simp only [if_neg h1, if_pos h2, if_pos h19, if_pos h20, if_neg h24, if_pos h25]; rfl))
          ·
            refine rx_aload_n C.1 (pc := 87) d_Mod_deliver_87 rfl ?_
            refine rx_iload_n C.1 (pc := 88) d_Mod_deliver_88 rfl ?_
            refine q_Mod_141 D b ca C (pc := 89) d_Mod_deliver_89 (c_Mod_replyAtMobile l D b ca (by first | assumption | exact rx_iM0 | exact rx_iM1 | (constructor <;> omega))) ⟨Nat.le_of_ble_eq_true rfl, Nat.le_of_ble_eq_true rfl⟩ ⟨Nat.zero_le _, Nat.zero_le _⟩ (Nat.le_of_ble_eq_true rfl) ?_
            refine rx_nm (fun m18 e18 => ?_)
            refine rx_aload_n C.1 (pc := 92) d_Mod_deliver_92 rfl ?_
            refine g_Mod_13 D b ca C (pc := 93) d_Mod_deliver_93 ?_
            refine rx_iconst C.1 (v := 0) (pc := 96) d_Mod_deliver_96 (by decide) ?_
            refine rx_iald C (i := 73) (n := 9) (pc := 97) d_Mod_deliver_97 (rx_lt (by decide)) rfl (by first | assumption | exact rx_in2 (by assumption) | exact rx_v02 | exact rx_v12 | exact vp_in_iff.mpr (by decide) | exact fa_in (by assumption) (by assumption) | exact fa_in (by assumption) rx_iM0 | exact fa_in (by assumption) rx_iM1) ?_
            refine rx_iconst C.1 (v := 4) (pc := 98) d_Mod_deliver_98 (by decide) ?_
            refine rx_icmp_ne C.1 (pc := 99) d_Mod_deliver_99 (tgt := 237) rfl (fun h26 => ?_) (fun h26 => ?_)
            ·
              refine rx_iconst C.1 (v := 1) (pc := 237) d_Mod_deliver_237 (by decide) ?_
              exact rx_zret C (pc := 238) d_Mod_deliver_238 (Or.inr rfl) (by subst e18 e16 e1; unfold sp_Mod_deliver; first | (simp only [if_neg h1, if_pos h2, if_pos h19, if_pos h20, if_pos h24, if_neg h26]; done) | (simp only [if_neg h1, if_pos h2, if_pos h19, if_pos h20, if_pos h24, if_neg h26]; rfl)) (by subst e18 e16 e1; unfold sp_Mod_deliver; first | (simp only [if_neg h1, if_pos h2, if_pos h19, if_pos h20, if_pos h24, if_neg h26]; done) | (simp only [if_neg h1, if_pos h2, if_pos h19, if_pos h20, if_pos h24, if_neg h26]; rfl))
            ·
              refine rx_aload_n C.1 (pc := 102) d_Mod_deliver_102 rfl ?_
              refine rx_iload_n C.1 (pc := 103) d_Mod_deliver_103 rfl ?_
              refine q_Mod_144 D b ca C (pc := 104) d_Mod_deliver_104 (c_Mod_dataAtMobile l D b ca (by first | assumption | exact rx_iM0 | exact rx_iM1 | (constructor <;> omega))) ⟨Nat.le_of_ble_eq_true rfl, Nat.le_of_ble_eq_true rfl⟩ ⟨Nat.zero_le _, Nat.zero_le _⟩ (Nat.le_of_ble_eq_true rfl) ?_
              refine rx_nm (fun m19 e19 => ?_)
              refine rx_goto C.1 (pc := 107) d_Mod_deliver_107 (tgt := 237) rfl ?_
              refine rx_iconst C.1 (v := 1) (pc := 237) d_Mod_deliver_237 (by decide) ?_
              exact rx_zret C (pc := 238) d_Mod_deliver_238 (Or.inr rfl) (by subst e19 e18 e16 e1; unfold sp_Mod_deliver; first | (simp only [if_neg h1, if_pos h2, if_pos h19, if_pos h20, if_pos h24, if_pos h26]; done) | (simp only [if_neg h1, if_pos h2, if_pos h19, if_pos h20, if_pos h24, if_pos h26]; rfl)) (by subst e19 e18 e16 e1; unfold sp_Mod_deliver; first | (simp only [if_neg h1, if_pos h2, if_pos h19, if_pos h20, if_pos h24, if_pos h26]; done) | (simp only [if_neg h1, if_pos h2, if_pos h19, if_pos h20, if_pos h24, if_pos h26]; rfl))
      ·
        refine rx_iconst C.1 (v := 1) (pc := 49) d_Mod_deliver_49 (by decide) ?_
        exact rx_zret C (pc := 50) d_Mod_deliver_50 (Or.inr rfl) (by subst e1; unfold sp_Mod_deliver; first | (simp only [if_neg h1, if_pos h2, if_neg h19]; done) | (simp only [if_neg h1, if_pos h2, if_neg h19]; rfl)) (by subst e1; unfold sp_Mod_deliver; first | (simp only [if_neg h1, if_pos h2, if_neg h19]; done) | (simp only [if_neg h1, if_pos h2, if_neg h19]; rfl))
  ·
    refine rx_iconst C.1 (v := 0) (pc := 8) d_Mod_deliver_8 (by decide) ?_
    exact rx_zret C (pc := 9) d_Mod_deliver_9 (Or.inl rfl) (by unfold sp_Mod_deliver; first | (simp only [if_pos h1]; done) | (simp only [if_pos h1]; rfl)) (by unfold sp_Mod_deliver; first | (simp only [if_pos h1]; done) | (simp only [if_pos h1]; rfl))
