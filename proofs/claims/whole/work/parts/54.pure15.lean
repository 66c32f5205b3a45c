def dvR (m1 : rMem) : rMem × Int32 := if (m1 73 (Int32.toNatClampNeg 1)) = 5 then (if (m1 74 (m1 73 (Int32.toNatClampNeg 2)).toNatClampNeg) = (m1 73 (Int32.toNatClampNeg 3)) then (if (m1 73 (Int32.toNatClampNeg 0)) = 1 then (let m16 := sp_Mod_advert m1 (m1 73 (Int32.toNatClampNeg 2)) (m1 73 (Int32.toNatClampNeg 4)); if (m16 73 (Int32.toNatClampNeg 0)) = 3 then (let m18 := sp_Mod_replyAtMobile m16 (m1 73 (Int32.toNatClampNeg 2)); if (m18 73 (Int32.toNatClampNeg 0)) = 4 then (let m19 := sp_Mod_dataAtMobile m18 (m1 73 (Int32.toNatClampNeg 2)); (m19, 1)) else (m18, 1)) else (if (m16 73 (Int32.toNatClampNeg 0)) = 4 then (let m17 := sp_Mod_dataAtMobile m16 (m1 73 (Int32.toNatClampNeg 2)); (m17, 1)) else (m16, 1))) else (if (m1 73 (Int32.toNatClampNeg 0)) = 3 then (let m14 := sp_Mod_replyAtMobile m1 (m1 73 (Int32.toNatClampNeg 2)); if (m14 73 (Int32.toNatClampNeg 0)) = 4 then (let m15 := sp_Mod_dataAtMobile m14 (m1 73 (Int32.toNatClampNeg 2)); (m15, 1)) else (m14, 1)) else (if (m1 73 (Int32.toNatClampNeg 0)) = 4 then (let m13 := sp_Mod_dataAtMobile m1 (m1 73 (Int32.toNatClampNeg 2)); (m13, 1)) else (m1, 1)))) else (m1, 1)) else (if (m1 73 (Int32.toNatClampNeg 1)) = 4 then (let m12 := sp_Mod_ack m1 (m1 73 (Int32.toNatClampNeg 2)); (m12, 1)) else (if (m1 73 (Int32.toNatClampNeg 1)) = 0 then (if (m1 73 (Int32.toNatClampNeg 0)) = 2 then (let m10 := sp_Mod_requestAtHome m1 (m1 73 (Int32.toNatClampNeg 2)); if (m10 73 (Int32.toNatClampNeg 0)) = 4 then (let m11 := sp_Mod_dataAtHome m10 (m1 73 (Int32.toNatClampNeg 2)); (m11, 1)) else (m10, 1)) else (if (m1 73 (Int32.toNatClampNeg 0)) = 4 then (let m9 := sp_Mod_dataAtHome m1 (m1 73 (Int32.toNatClampNeg 2)); (m9, 1)) else (m1, 1))) else (if (m1 73 (Int32.toNatClampNeg 0)) = 2 then (let m5 := sp_Mod_requestAtForeign m1 (m1 73 (Int32.toNatClampNeg 1)) (m1 73 (Int32.toNatClampNeg 2)); if (m5 73 (Int32.toNatClampNeg 0)) = 3 then (let m7 := sp_Mod_replyAtForeign m5 (m1 73 (Int32.toNatClampNeg 1)) (m1 73 (Int32.toNatClampNeg 2)); if (m7 73 (Int32.toNatClampNeg 0)) = 5 then (if (m7 89 ((2 * (m1 73 (Int32.toNatClampNeg 1))) + (m1 73 (Int32.toNatClampNeg 2))).toNatClampNeg) ≤ (m7 71 3) then (m7, 1) else (let m8 := sp_Mod_send m7 4 5 (m1 73 (Int32.toNatClampNeg 2)) (m1 73 (Int32.toNatClampNeg 1)) (m7 73 (Int32.toNatClampNeg 4)) 0 0 0 0; (m8, 1))) else (m7, 1)) else (if (m5 73 (Int32.toNatClampNeg 0)) = 5 then (if (m5 89 ((2 * (m1 73 (Int32.toNatClampNeg 1))) + (m1 73 (Int32.toNatClampNeg 2))).toNatClampNeg) ≤ (m5 71 3) then (m5, 1) else (let m6 := sp_Mod_send m5 4 5 (m1 73 (Int32.toNatClampNeg 2)) (m1 73 (Int32.toNatClampNeg 1)) (m5 73 (Int32.toNatClampNeg 4)) 0 0 0 0; (m6, 1))) else (m5, 1))) else (if (m1 73 (Int32.toNatClampNeg 0)) = 3 then (let m3 := sp_Mod_replyAtForeign m1 (m1 73 (Int32.toNatClampNeg 1)) (m1 73 (Int32.toNatClampNeg 2)); if (m3 73 (Int32.toNatClampNeg 0)) = 5 then (if (m3 89 ((2 * (m1 73 (Int32.toNatClampNeg 1))) + (m1 73 (Int32.toNatClampNeg 2))).toNatClampNeg) ≤ (m3 71 3) then (m3, 1) else (let m4 := sp_Mod_send m3 4 5 (m1 73 (Int32.toNatClampNeg 2)) (m1 73 (Int32.toNatClampNeg 1)) (m3 73 (Int32.toNatClampNeg 4)) 0 0 0 0; (m4, 1))) else (m3, 1)) else (if (m1 73 (Int32.toNatClampNeg 0)) = 5 then (if (m1 89 ((2 * (m1 73 (Int32.toNatClampNeg 1))) + (m1 73 (Int32.toNatClampNeg 2))).toNatClampNeg) ≤ (m1 71 3) then (m1, 1) else (let m2 := sp_Mod_send m1 4 5 (m1 73 (Int32.toNatClampNeg 2)) (m1 73 (Int32.toNatClampNeg 1)) (m1 73 (Int32.toNatClampNeg 4)) 0 0 0 0; (m2, 1))) else (m1, 1))))))
theorem dv_eq {τ : rMem} {i : Int32} (h : ¬ rv_Mod_isMessage τ i = 0) : sp_Mod_deliver τ i = dvR (sp_Mod_take τ i) := by
  unfold sp_Mod_deliver
  rw [if_neg h]
  rfl
theorem i32ne {x c : Int32} (h : x.toInt ≠ c.toInt) : ¬ x = c := fun z => h (by rw [z])
theorem RS_hand {J : Nat} {T : Int} {σ τ : rMem} (hT : T + (J + 1 : Nat) ≤ 100000) (hok : m_ok σ (σ 44)) (he : m_eq (σ 44) (τ 73)) (h : RR J T σ τ) : (dvR τ).2 = 1 ∧ RS (J + 1) T σ τ (sp_Net_handOver σ 44) (dvR τ).1 := by
  have he' := he
  obtain ⟨e0, e1, e2, e4, e5, e6, e7, e8, e9⟩ := he'
  have hm : rx_iM (τ 73 2) := by rw [← e2]; exact hok.1
  have hn := rx_j2 hm
  have hpl := (h.2.2.2.1 _ hn).1.2.1
  have l0 : (0 : Int32).toInt = 0 := rfl
  have l1 : (1 : Int32).toInt = 1 := rfl
  have l2 : (2 : Int32).toInt = 2 := rfl
  have l3 : (3 : Int32).toInt = 3 := rfl
  have l4 : (4 : Int32).toInt = 4 := rfl
  have l5 : (5 : Int32).toInt = 5 := rfl
  -- to a mobile
  have at5 : σ 44 1 = 5 → sp_Net_handOver σ 44 = sp_Mob_receive σ (τ 73 2).toNatClampNeg 44 := by
    intro q
    unfold sp_Net_handOver
    rw [if_pos q, e2]
  have at4 : σ 44 1 = 4 → sp_Net_handOver σ 44 = sp_Corr_receive σ 44 := by
    intro q
    unfold sp_Net_handOver
    rw [if_neg (by rw [q]; decide), if_pos q]
  have at0 : σ 44 1 = 0 → sp_Net_handOver σ 44 = sp_Home_receive σ 44 := by
    intro q
    unfold sp_Net_handOver
    rw [if_neg (by rw [q]; decide), if_neg (by rw [q]; decide), if_pos q]
  have atF : 1 ≤ (σ 44 1).toInt ∧ (σ 44 1).toInt ≤ 3 → sp_Net_handOver σ 44 = sp_Fa_receive σ ((τ 73 1) - 1).toNatClampNeg 44 := by
    intro q
    unfold sp_Net_handOver
    rw [if_neg (i32ne (by omega)), if_neg (i32ne (by omega)), if_neg (i32ne (by omega)), e1]
  have gone : σ 44 1 = 5 → ¬ σ (46 + (τ 73 2).toNatClampNeg) 4 = τ 73 3 → (dvR τ).2 = 1 ∧ RS (J + 1) T σ τ (sp_Net_handOver σ 44) (dvR τ).1 := by
    intro q hp
    have hC : sp_Net_handOver σ 44 = σ := by
      rw [at5 q]
      unfold sp_Mob_receive
      rw [if_neg (by rw [e9 q]; exact fun z => hp z.symm)]
    have hM : dvR τ = (τ, 1) := by
      unfold dvR
      rw [j_1, j_2, j_3, if_pos (by rw [← e1]; exact q), if_neg (by rw [← hpl]; exact hp)]
    rw [hC, hM]
    exact ⟨rfl, RS_up (by omega) (RS_id h)⟩
  rcases hok.2.2 with w | w | w | w | w | w
  · -- an advert
    obtain ⟨w0, w1, w4⟩ := w
    have k0 : τ 73 0 = 1 := by rw [← e0]; exact w0
    have k1 : τ 73 1 = 5 := by rw [← e1]; exact w1
    by_cases hp : σ (46 + (τ 73 2).toNatClampNeg) 4 = τ 73 3
    · have hC : sp_Net_handOver σ 44 = sp_Mob_takeAdvert σ (τ 73 2).toNatClampNeg (τ 73 4) := by
        rw [at5 w1]
        unfold sp_Mob_receive
        rw [if_pos (by rw [e9 w1]; exact hp.symm), if_pos w0, e4]
      have S := RS_advert hm (a := τ 73 4) (by rw [← e4]; exact w4) hT h
      have f := S.2.2 73 (Or.inr rfl)
      have hM : dvR τ = (sp_Mod_advert τ (τ 73 2) (τ 73 4), 1) := by
        unfold dvR
        dsimp only
        rw [j_0, j_1, j_2, j_3, j_4, if_pos k1, if_pos (by rw [← hpl]; exact hp), if_pos k0, f, if_neg (show ¬ τ 73 0 = 3 by rw [k0]; decide), if_neg (show ¬ τ 73 0 = 4 by rw [k0]; decide)]
      rw [hC, hM]
      exact ⟨rfl, S⟩
    · exact gone w1 hp
  · -- a request
    obtain ⟨w0, w1, w5, w6⟩ := w
    have k0 : τ 73 0 = 2 := by rw [← e0]; exact w0
    by_cases z : σ 44 1 = 0
    · have k1 : τ 73 1 = 0 := by rw [← e1]; exact z
      have hC : sp_Net_handOver σ 44 = sp_Home_takeRequest σ 44 := by
        rw [at0 z]
        unfold sp_Home_receive
        rw [if_pos w0]
      have S := RS_request hm he e2 hok.2.1 w5 (by omega) h
      have f := S.2.2 73 (Or.inr rfl)
      have hM : dvR τ = (sp_Mod_requestAtHome τ (τ 73 2), 1) := by
        unfold dvR
        dsimp only
        rw [j_0, j_1, j_2, if_neg (show ¬ τ 73 1 = 5 by rw [k1]; decide), if_neg (show ¬ τ 73 1 = 4 by rw [k1]; decide), if_pos k1, if_pos k0, f, if_neg (show ¬ τ 73 0 = 4 by rw [k0]; decide)]
      rw [hC, hM]
      exact ⟨rfl, RS_up (by omega) S⟩
    · have ht : 1 ≤ (σ 44 1).toInt ∧ (σ 44 1).toInt ≤ 3 := by
        rw [rx_eqI, rx_I0] at z
        omega
      have ht' : 1 ≤ (τ 73 1).toInt ∧ (τ 73 1).toInt ≤ 3 := by rw [← e1]; exact ht
      have hC : sp_Net_handOver σ 44 = sp_Fa_takeRequest σ ((τ 73 1) - 1).toNatClampNeg 44 := by
        rw [atF ht]
        unfold sp_Fa_receive
        rw [if_pos w0]
      have S := RS_reqF ht' hm he hok w0 e2 h
      have f := S.2.2 73 (Or.inr rfl)
      have hM : dvR τ = (sp_Mod_requestAtForeign τ (τ 73 1) (τ 73 2), 1) := by
        unfold dvR
        dsimp only
        rw [j_0, j_1, j_2, if_neg (i32ne (by omega)), if_neg (i32ne (by omega)), if_neg (i32ne (by omega)), if_pos k0, f, if_neg (show ¬ τ 73 0 = 3 by rw [k0]; decide), if_neg (show ¬ τ 73 0 = 5 by rw [k0]; decide)]
      rw [hC, hM]
      exact ⟨rfl, RS_up (by omega) S⟩
  · -- a reply
    obtain ⟨w0, w1, w5⟩ := w
    have k0 : τ 73 0 = 3 := by rw [← e0]; exact w0
    rcases w1 with ht | w1
    · have ht' : 1 ≤ (τ 73 1).toInt ∧ (τ 73 1).toInt ≤ 3 := by rw [← e1]; exact ht
      have hC : sp_Net_handOver σ 44 = sp_Fa_takeReply σ ((τ 73 1) - 1).toNatClampNeg 44 := by
        rw [atF ht]
        unfold sp_Fa_receive
        rw [if_neg (show ¬ σ 44 0 = 2 by rw [w0]; decide), if_pos w0]
      have S := RS_repF ht' hm he hok w0 e2 (by omega) h
      have f := S.2.2 73 (Or.inr rfl)
      have hM : dvR τ = (sp_Mod_replyAtForeign τ (τ 73 1) (τ 73 2), 1) := by
        unfold dvR
        dsimp only
        rw [j_0, j_1, j_2, if_neg (i32ne (by omega)), if_neg (i32ne (by omega)), if_neg (i32ne (by omega)), if_neg (show ¬ τ 73 0 = 2 by rw [k0]; decide), if_pos k0, f, if_neg (show ¬ τ 73 0 = 5 by rw [k0]; decide)]
      rw [hC, hM]
      exact ⟨rfl, RS_up (by omega) S⟩
    · have k1 : τ 73 1 = 5 := by rw [← e1]; exact w1
      by_cases hp : σ (46 + (τ 73 2).toNatClampNeg) 4 = τ 73 3
      · have hC : sp_Net_handOver σ 44 = sp_Mob_takeReply σ (τ 73 2).toNatClampNeg 44 := by
          rw [at5 w1]
          unfold sp_Mob_receive
          rw [if_pos (by rw [e9 w1]; exact hp.symm), if_neg (show ¬ σ 44 0 = 1 by rw [w0]; decide), if_pos w0]
        have S := RS_reply hm he e2 h
        have f := S.2.2 73 (Or.inr rfl)
        have hM : dvR τ = (sp_Mod_replyAtMobile τ (τ 73 2), 1) := by
          unfold dvR
          dsimp only
          rw [j_0, j_1, j_2, j_3, if_pos k1, if_pos (by rw [← hpl]; exact hp), if_neg (show ¬ τ 73 0 = 1 by rw [k0]; decide), if_pos k0, f, if_neg (show ¬ τ 73 0 = 4 by rw [k0]; decide)]
        rw [hC, hM]
        exact ⟨rfl, RS_up (by omega) S⟩
      · exact gone w1 hp
  · -- data
    obtain ⟨w0, w1, w4⟩ := w
    have k0 : τ 73 0 = 4 := by rw [← e0]; exact w0
    have w4' : (σ 44 4).toInt ≤ (σ 68 (τ 73 2).toNatClampNeg).toInt := by rw [← e2]; exact w4
    rcases w1 with w1 | w1
    · have k1 : τ 73 1 = 0 := by rw [← e1]; exact w1
      have hC : sp_Net_handOver σ 44 = sp_Home_takeData σ (τ 73 2) (σ 44 4) := by
        rw [at0 w1]
        unfold sp_Home_receive
        rw [if_neg (show ¬ σ 44 0 = 2 by rw [w0]; decide), if_pos w0, e2]
      have S := RS_dataHome hm he w4' h
      have hM : dvR τ = (sp_Mod_dataAtHome τ (τ 73 2), 1) := by
        unfold dvR
        dsimp only
        rw [j_0, j_1, j_2, if_neg (show ¬ τ 73 1 = 5 by rw [k1]; decide), if_neg (show ¬ τ 73 1 = 4 by rw [k1]; decide), if_pos k1, if_neg (show ¬ τ 73 0 = 2 by rw [k0]; decide), if_pos k0]
      rw [hC, hM]
      exact ⟨rfl, RS_up (by omega) S⟩
    · have k1 : τ 73 1 = 5 := by rw [← e1]; exact w1
      by_cases hp : σ (46 + (τ 73 2).toNatClampNeg) 4 = τ 73 3
      · have hC : sp_Net_handOver σ 44 = sp_Mob_takeData σ (τ 73 2).toNatClampNeg (σ 44 4) := by
          rw [at5 w1]
          unfold sp_Mob_receive
          rw [if_pos (by rw [e9 w1]; exact hp.symm), if_neg (show ¬ σ 44 0 = 1 by rw [w0]; decide), if_neg (show ¬ σ 44 0 = 3 by rw [w0]; decide), if_pos w0]
        have S := RS_data hm he w4' h
        have hM : dvR τ = (sp_Mod_dataAtMobile τ (τ 73 2), 1) := by
          unfold dvR
          dsimp only
          rw [j_0, j_1, j_2, j_3, if_pos k1, if_pos (by rw [← hpl]; exact hp), if_neg (show ¬ τ 73 0 = 1 by rw [k0]; decide), if_neg (show ¬ τ 73 0 = 3 by rw [k0]; decide), if_pos k0]
        rw [hC, hM]
        exact ⟨rfl, RS_up (by omega) S⟩
      · exact gone w1 hp
  · -- a tunnel
    obtain ⟨w0, w1, w4⟩ := w
    have k0 : τ 73 0 = 5 := by rw [← e0]; exact w0
    have w4' : (σ 44 4).toInt ≤ (σ 68 (τ 73 2).toNatClampNeg).toInt := by rw [← e2]; exact w4
    by_cases z : σ 44 1 = 0
    · have k1 : τ 73 1 = 0 := by rw [← e1]; exact z
      have hC : sp_Net_handOver σ 44 = σ := by
        rw [at0 z]
        unfold sp_Home_receive
        rw [if_neg (show ¬ σ 44 0 = 2 by rw [w0]; decide), if_neg (show ¬ σ 44 0 = 4 by rw [w0]; decide)]
      have hM : dvR τ = (τ, 1) := by
        unfold dvR
        dsimp only
        rw [j_0, j_1, if_neg (show ¬ τ 73 1 = 5 by rw [k1]; decide), if_neg (show ¬ τ 73 1 = 4 by rw [k1]; decide), if_pos k1, if_neg (show ¬ τ 73 0 = 2 by rw [k0]; decide), if_neg (show ¬ τ 73 0 = 4 by rw [k0]; decide)]
      rw [hC, hM]
      exact ⟨rfl, RS_up (by omega) (RS_id h)⟩
    · have ht : 1 ≤ (σ 44 1).toInt ∧ (σ 44 1).toInt ≤ 3 := by
        rw [rx_eqI, rx_I0] at z
        omega
      have ht' : 1 ≤ (τ 73 1).toInt ∧ (τ 73 1).toInt ≤ 3 := by rw [← e1]; exact ht
      have hC : sp_Net_handOver σ 44 = sp_Fa_takeTunnel σ ((τ 73 1) - 1).toNatClampNeg (τ 73 2) (σ 44 4) := by
        rw [atF ht]
        unfold sp_Fa_receive
        rw [if_neg (show ¬ σ 44 0 = 2 by rw [w0]; decide), if_neg (show ¬ σ 44 0 = 3 by rw [w0]; decide), if_pos w0, e2]
      have S := RS_tunnel ht' hm he w4' h
      have hM : dvR τ = (if τ 89 (2 * τ 73 1 + τ 73 2).toNatClampNeg ≤ τ 71 3 then τ else sp_Mod_send τ 4 5 (τ 73 2) (τ 73 1) (τ 73 4) 0 0 0 0, 1) := by
        unfold dvR
        dsimp only
        rw [j_0, j_1, j_2, j_4, if_neg (i32ne (by omega)), if_neg (i32ne (by omega)), if_neg (i32ne (by omega)), if_neg (show ¬ τ 73 0 = 2 by rw [k0]; decide), if_neg (show ¬ τ 73 0 = 3 by rw [k0]; decide), if_pos k0]
        by_cases y : τ 89 (2 * τ 73 1 + τ 73 2).toNatClampNeg ≤ τ 71 3
        · rw [if_pos y, if_pos y]
        · rw [if_neg y, if_neg y]
      rw [hC, hM]
      exact ⟨rfl, RS_up (by omega) S⟩
  · -- an acknowledgement
    obtain ⟨w0, w1, w4⟩ := w
    have k1 : τ 73 1 = 4 := by rw [← e1]; exact w1
    have S := RS_ack hm he e2 w0 (by rw [← e2]; exact w4) h
    have hM : dvR τ = (sp_Mod_ack τ (τ 73 2), 1) := by
      unfold dvR
      dsimp only
      rw [j_1, j_2, if_neg (show ¬ τ 73 1 = 5 by rw [k1]; decide), if_pos k1]
    rw [at4 w1, hM]
    exact ⟨rfl, RS_up (by omega) S⟩
theorem m_t5 {σ : rMem} {v : Nat → Int32} (h : m_ok σ v) : rx_t5 (v 1) := by
  have l0 : (0 : Int32).toInt = 0 := rfl
  have l4 : (4 : Int32).toInt = 4 := rfl
  have l5 : (5 : Int32).toInt = 5 := rfl
  unfold rx_t5
  rcases h.2.2 with w | w | w | w | w | w
  · rw [w.2.1]; decide
  · have := w.2.1; omega
  · rcases w.2.1 with x | x
    · omega
    · rw [x]; decide
  · rcases w.2.1 with x | x
    · rw [x]; decide
    · rw [x]; decide
  · have := w.2.1; omega
  · rw [w.2.1]; decide
theorem tk_mrow {τ : rMem} {i : Int32} (hi : 0 ≤ i.toInt ∧ i.toInt ≤ 1000) {f : Nat} (hf : f < 9) : sp_Mod_take τ i 73 f = mrow τ i.toNatClampNeg f := by
  have A := fun (k : Int32) (hk : 0 ≤ k.toInt ∧ k.toInt ≤ 8) => ms_ix (i := i) hi hk
  rw [tk_row, A 0 (by decide), A 1 (by decide), A 2 (by decide), A 3 (by decide), A 4 (by decide), A 5 (by decide), A 6 (by decide), A 7 (by decide), A 8 (by decide), j_0, j_1, j_2, j_3, j_4, j_5, j_6, j_7, j_8]
  match f, hf with
  | 0, _ => simp; rfl
  | 1, _ => simp
  | 2, _ => simp
  | 3, _ => simp
  | 4, _ => simp
  | 5, _ => simp
  | 6, _ => simp
  | 7, _ => simp
  | 8, _ => simp
  | f + 9, hf => omega
theorem RS_deliver {J : Nat} {T : Int} {σ τ : rMem} {i : Int32} (hT : T + (J + 1 : Nat) ≤ 100000) (hg : 0 ≤ i.toInt ∧ i.toInt < (σ 1 1).toInt) (h : RR J T σ τ) : (sp_Net_deliver σ i).2 = 1 ∧ (sp_Mod_deliver τ i).2 = 1 ∧ RR (J + 1) T (sp_Net_deliver σ i).1 (sp_Mod_deliver τ i).1 ∧ (∀ c, 71 ≤ c → (sp_Net_deliver σ i).1 c = σ c) ∧ ∀ c, c < 71 → (sp_Mod_deliver τ i).1 c = τ c := by
  have e := h.1.2.2.2.1
  have hs := h.1.1
  have hin := rx_cn (x := i) (by omega)
  have hsn := rx_cn (x := σ 1 1) (by omega)
  have hmi := mq_in h.1 (k := i.toNatClampNeg) (by omega)
  have hh : ¬ rv_Wire_holds σ i = 0 := by
    unfold rv_Wire_holds
    rw [if_neg (by rw [rx_ltI, rx_I0]; omega), if_neg (by rw [rx_leI]; omega)]
    decide
  have hmsg : ¬ rv_Mod_isMessage τ i = 0 := by
    unfold rv_Mod_isMessage
    rw [← e, if_neg (by rw [rx_ltI, rx_I0]; omega), if_neg (by rw [rx_leI]; omega)]
    decide
  have a1 : sp_Net_deliver σ i = (sp_Net_handOver (sp_Wire_remove (sp_Msg_copyFrom σ 44 (mq σ i.toNatClampNeg)) i) 44, 1) := by
    unfold sp_Net_deliver
    rw [if_neg hh]
  rw [a1, dv_eq hmsg]
  have c0 : ∀ c, c ≠ 44 → sp_Msg_copyFrom σ 44 (mq σ i.toNatClampNeg) c = σ c := fun c hc => cp_ne hc
  have c44 : ∀ f, f < 9 → sp_Msg_copyFrom σ 44 (mq σ i.toNatClampNeg) 44 f = σ (mq σ i.toNatClampNeg) f := fun f hf => cp_at (by omega) hf
  generalize sp_Msg_copyFrom σ 44 (mq σ i.toNatClampNeg) = σ1 at *
  have s1 := c0 1 (by omega)
  have s2 := c0 2 (by omega)
  have hC1 := rem_C (σ := σ1) (i := i) (by rw [s1]; exact hs.2) (by rw [s1]; exact hg)
  have r44 : sp_Wire_remove σ1 i 44 = σ1 44 := rm_fr (by omega) (by omega)
  generalize sp_Wire_remove σ1 i = σ2 at *
  have hC : remC σ σ2 i.toNatClampNeg (σ 1 1).toNatClampNeg := by
    rw [s1] at hC1
    obtain ⟨x1, x2, x3, x4⟩ := hC1
    refine ⟨fun c h1 h2 h3 => (x1 c h1 h2 h3).trans (c0 c h3), fun k hk => ?_, ?_, fun t => ?_⟩
    · rw [x2 k hk, s1]
    · rw [x3, s1]
    · rw [x4 t, s2]
  have hM := rem_M (τ := τ) (i := i) (by rw [← e]; exact hs.2) (by rw [← e]; exact hg)
  have t73 : ∀ f, f < 9 → sp_Mod_take τ i 73 f = mrow τ i.toNatClampNeg f := fun f hf => tk_mrow (by omega) hf
  generalize sp_Mod_take τ i = τ2 at *
  rw [← e] at hM
  have R2 := RR_rem h (by omega) (by omega) hC hM
  obtain ⟨g1, g2⟩ := h.2.2.2.2.2 i.toNatClampNeg (by omega)
  have y44 : ∀ f, f < 9 → σ2 44 f = σ (mq σ i.toNatClampNeg) f := fun f hf => by rw [r44]; exact c44 f hf
  have ok1 : m_ok σ2 (σ (mq σ i.toNatClampNeg)) := by
    have hu1 := rx_j2 g1.1
    unfold m_ok at g1 ⊢
    rw [hC.1 68 (by omega) (by omega) (by omega), hC.1 (46 + (σ (mq σ i.toNatClampNeg) 3).toNatClampNeg) (by omega) (by omega) (by omega)]
    exact g1
  obtain ⟨v1, S⟩ := RS_hand hT (m_ok_ext y44 ok1) (m_eq_ext y44 t73 g2) R2
  exact ⟨rfl, v1, S.1, fun c hc => (S.2.1 c hc).trans (hC.1 c (by omega) (by omega) (by omega)), fun c hc => (S.2.2 c (Or.inl hc)).trans (hM.1 c (by omega) (by omega) (by omega))⟩
theorem ok_16 : ok_deliver sR := by
  intro j σ i h hj
  have e := h.1.2.2.2.1
  have hs := h.1.1
  by_cases hg : 0 ≤ i.toInt ∧ i.toInt < (σ 1 1).toInt
  · have hin := rx_cn (x := i) (by omega)
    have D0 := RS_deliver (i := i) (by omega) hg h
    obtain ⟨g1, g2⟩ := h.2.2.2.2.2 i.toNatClampNeg (by omega)
    have hC := D0.2.2.2.1
    have h2 := D0.1
    generalize hσ : (sp_Net_deliver σ i).1 = σ' at *
    have hq : RR j (20 * j) σ σ' := RR_congr (fun _ _ => rfl) hC h
    have D1 := RS_deliver (i := i) (by omega) hg hq
    rw [hσ] at D1
    refine ⟨fun _ => ⟨g1.1, m_t5 g1⟩, fun _ => ?_, by rw [h2, D1.2.1], ?_⟩
    · rw [hC 72 (by omega), ms_ix (by omega) (by decide), ms_ix (by omega) (by decide), j_1, j_2]
      have x1 : σ (mq σ i.toNatClampNeg) 1 = σ 72 (9 * i.toNatClampNeg + 1) := g2.2.1
      have x2 : σ (mq σ i.toNatClampNeg) 3 = σ 72 (9 * i.toNatClampNeg + 2) := g2.2.2.1
      rw [← x1, ← x2]
      exact ⟨g1.1, m_t5 g1⟩
    · have h4 := RR_congr (fun c hc => D1.2.2.2.2 c hc) (fun _ _ => rfl) D1.2.2.1
      unfold sR
      exact RR_up (by omega) (by omega) h4
  · have n1 : rv_Wire_holds σ i = 0 := Classical.byContradiction fun q => hg (rh_Wire q)
    have n2 : rv_Mod_isMessage σ i = 0 := Classical.byContradiction fun q => hg (by have := rh_Mod q; rw [← e] at this; exact this)
    have a1 : sp_Net_deliver σ i = (σ, 0) := by
      unfold sp_Net_deliver
      rw [if_pos n1]
    have a2 : sp_Mod_deliver σ i = (σ, 0) := by
      unfold sp_Mod_deliver
      rw [if_pos n2]
    rw [a1]
    refine ⟨fun q => absurd n1 q, fun q => absurd n2 q, ?_⟩
    show _ = (sp_Mod_deliver σ i).2 ∧ sR (j + 1) (sp_Mod_deliver σ i).1
    rw [a2]
    exact ⟨rfl, sR_same h⟩
theorem sR_ok : lw_ok sR := ⟨ok_10, ok_9, ok_15, ok_14, ok_16, ok_13, ok_12, ok_11, ok_1, ok_8, ok_2, ok_3, ok_4, ok_5, ok_7, ok_6⟩
