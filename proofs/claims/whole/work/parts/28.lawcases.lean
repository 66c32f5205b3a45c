set_option maxHeartbeats 4000000 in
set_option maxRecDepth 100000 in
theorem tn_key (l : Launch) (D : va_G) (b : Nat) (ca : Nat → ClassId) {p : Program} {e : Env} {s : State} {mm : MethodId} {below : List Frame} {meth : Method} {c : Code} {Q : State → Prop} {b0 L : Nat} {xs : Nat → Int32} {σ : rMem} {i : Int32} (C : rx_Cw p s mm #[.ref b0] meth c R_Law code 4 (some .boolean) (rx_fin D b ca)) (hX : va_X b0 L xs s s.heap) (hbl : b0 < s.heap.size) (hbA : ¬ rg_O (rx_fin D b ca) b0) (hv1 : vp_in (i + 1) L) (hv2 : vp_in (i + 2) L) (hv3 : vp_in (i + 3) L)  (heq : (sp_Net_key σ (xs (i + 1).toNatClampNeg) (xs (i + 2).toNatClampNeg) (xs (i + 3).toNatClampNeg)).2 = (sp_Mod_key ((sp_Net_key σ (xs (i + 1).toNatClampNeg) (xs (i + 2).toNatClampNeg) (xs (i + 3).toNatClampNeg)).1) (xs (i + 1).toNatClampNeg) (xs (i + 2).toNatClampNeg) (xs (i + 3).toNatClampNeg)).2)
    (kb : rx_X p l e room_1 s mm #[.ref b0] below meth c (rg_O (rx_fin D b ca)) s.heap 96 993 Q 4 (rx_m (rx_fin D b ca) (sp_Mod_key ((sp_Net_key σ (xs (i + 1).toNatClampNeg) (xs (i + 2).toNatClampNeg) (xs (i + 3).toNatClampNeg)).1) (xs (i + 1).toNatClampNeg) (xs (i + 2).toNatClampNeg) (xs (i + 3).toNatClampNeg)).1) 600 [(3, .int i), (2, .ref (rg_A (rx_fin D b ca) 71)), (1, .ref (rg_A (rx_fin D b ca) 0)), (0, .ref b0)] []) : rx_X p l e room_1 s mm #[.ref b0] below meth c (rg_O (rx_fin D b ca)) s.heap 96 993 Q 4 (rx_m (rx_fin D b ca) σ) 140 [(3, .int i), (2, .ref (rg_A (rx_fin D b ca) 71)), (1, .ref (rg_A (rx_fin D b ca) 0)), (0, .ref b0)] [] := by
  refine rx_aload_n C.1 (pc := 140) d_Law_law_140 rfl ?_
  refine rx_aload_n C.1 (pc := 141) d_Law_law_141 rfl ?_
  refine rx_iload_n C.1 (pc := 142) d_Law_law_142 rfl ?_
  refine rx_iconst C.1 (v := 1) (pc := 143) d_Law_law_143 (by decide) ?_
  refine rx_iadd C.1 (pc := 144) d_Law_law_144 ?_
  refine rx_sld C.1 hX hbl hbA (by assumption) (pc := 145) d_Law_law_145 ?_
  refine rx_aload_n C.1 (pc := 146) d_Law_law_146 rfl ?_
  refine rx_iload_n C.1 (pc := 147) d_Law_law_147 rfl ?_
  refine rx_iconst C.1 (v := 2) (pc := 148) d_Law_law_148 (by decide) ?_
  refine rx_iadd C.1 (pc := 149) d_Law_law_149 ?_
  refine rx_sld C.1 hX hbl hbA (by assumption) (pc := 150) d_Law_law_150 ?_
  refine rx_aload_n C.1 (pc := 151) d_Law_law_151 rfl ?_
  refine rx_iload_n C.1 (pc := 152) d_Law_law_152 rfl ?_
  refine rx_iconst C.1 (v := 3) (pc := 153) d_Law_law_153 (by decide) ?_
  refine rx_iadd C.1 (pc := 154) d_Law_law_154 ?_
  refine rx_sld C.1 hX hbl hbA (by assumption) (pc := 155) d_Law_law_155 ?_
  refine q_Law_21 D b ca C (pc := 156) d_Law_law_156 (c_Net_key l D b ca ) ⟨Nat.le_of_ble_eq_true rfl, Nat.le_of_ble_eq_true rfl⟩ ⟨Nat.le_of_ble_eq_true rfl, Nat.le_of_ble_eq_true rfl⟩ (Nat.le_of_ble_eq_true rfl) ?_
  refine rx_aload_n C.1 (pc := 159) d_Law_law_159 rfl ?_
  refine rx_aload_n C.1 (pc := 160) d_Law_law_160 rfl ?_
  refine rx_iload_n C.1 (pc := 161) d_Law_law_161 rfl ?_
  refine rx_iconst C.1 (v := 1) (pc := 162) d_Law_law_162 (by decide) ?_
  refine rx_iadd C.1 (pc := 163) d_Law_law_163 ?_
  refine rx_sld C.1 hX hbl hbA (by assumption) (pc := 164) d_Law_law_164 ?_
  refine rx_aload_n C.1 (pc := 165) d_Law_law_165 rfl ?_
  refine rx_iload_n C.1 (pc := 166) d_Law_law_166 rfl ?_
  refine rx_iconst C.1 (v := 2) (pc := 167) d_Law_law_167 (by decide) ?_
  refine rx_iadd C.1 (pc := 168) d_Law_law_168 ?_
  refine rx_sld C.1 hX hbl hbA (by assumption) (pc := 169) d_Law_law_169 ?_
  refine rx_aload_n C.1 (pc := 170) d_Law_law_170 rfl ?_
  refine rx_iload_n C.1 (pc := 171) d_Law_law_171 rfl ?_
  refine rx_iconst C.1 (v := 3) (pc := 172) d_Law_law_172 (by decide) ?_
  refine rx_iadd C.1 (pc := 173) d_Law_law_173 ?_
  refine rx_sld C.1 hX hbl hbA (by assumption) (pc := 174) d_Law_law_174 ?_
  refine q_Law_25 D b ca C (pc := 175) d_Law_law_175 (c_Mod_key l D b ca ) ⟨Nat.le_of_ble_eq_true rfl, Nat.le_of_ble_eq_true rfl⟩ ⟨Nat.le_of_ble_eq_true rfl, Nat.le_of_ble_eq_true rfl⟩ (Nat.le_of_ble_eq_true rfl) ?_
  exact rx_icmp_eq C.1 (pc := 178) d_Law_law_178 (tgt := 600) rfl (fun _ => kb) (fun h9 => absurd heq h9)
set_option maxHeartbeats 4000000 in
set_option maxRecDepth 100000 in
theorem tn_move (l : Launch) (D : va_G) (b : Nat) (ca : Nat → ClassId) {p : Program} {e : Env} {s : State} {mm : MethodId} {below : List Frame} {meth : Method} {c : Code} {Q : State → Prop} {b0 L : Nat} {xs : Nat → Int32} {σ : rMem} {i : Int32} (C : rx_Cw p s mm #[.ref b0] meth c R_Law code 4 (some .boolean) (rx_fin D b ca)) (hX : va_X b0 L xs s s.heap) (hbl : b0 < s.heap.size) (hbA : ¬ rg_O (rx_fin D b ca) b0) (hv1 : vp_in (i + 1) L) (hv2 : vp_in (i + 2) L)  (heq : (sp_Net_move σ (xs (i + 1).toNatClampNeg) (xs (i + 2).toNatClampNeg)).2 = (sp_Mod_move ((sp_Net_move σ (xs (i + 1).toNatClampNeg) (xs (i + 2).toNatClampNeg)).1) (xs (i + 1).toNatClampNeg) (xs (i + 2).toNatClampNeg)).2)
    (kb : rx_X p l e room_1 s mm #[.ref b0] below meth c (rg_O (rx_fin D b ca)) s.heap 96 993 Q 4 (rx_m (rx_fin D b ca) (sp_Mod_move ((sp_Net_move σ (xs (i + 1).toNatClampNeg) (xs (i + 2).toNatClampNeg)).1) (xs (i + 1).toNatClampNeg) (xs (i + 2).toNatClampNeg)).1) 600 [(3, .int i), (2, .ref (rg_A (rx_fin D b ca) 71)), (1, .ref (rg_A (rx_fin D b ca) 0)), (0, .ref b0)] []) : rx_X p l e room_1 s mm #[.ref b0] below meth c (rg_O (rx_fin D b ca)) s.heap 96 993 Q 4 (rx_m (rx_fin D b ca) σ) 183 [(3, .int i), (2, .ref (rg_A (rx_fin D b ca) 71)), (1, .ref (rg_A (rx_fin D b ca) 0)), (0, .ref b0)] [] := by
  refine rx_aload_n C.1 (pc := 183) d_Law_law_183 rfl ?_
  refine rx_aload_n C.1 (pc := 184) d_Law_law_184 rfl ?_
  refine rx_iload_n C.1 (pc := 185) d_Law_law_185 rfl ?_
  refine rx_iconst C.1 (v := 1) (pc := 186) d_Law_law_186 (by decide) ?_
  refine rx_iadd C.1 (pc := 187) d_Law_law_187 ?_
  refine rx_sld C.1 hX hbl hbA (by assumption) (pc := 188) d_Law_law_188 ?_
  refine rx_aload_n C.1 (pc := 189) d_Law_law_189 rfl ?_
  refine rx_iload_n C.1 (pc := 190) d_Law_law_190 rfl ?_
  refine rx_iconst C.1 (v := 2) (pc := 191) d_Law_law_191 (by decide) ?_
  refine rx_iadd C.1 (pc := 192) d_Law_law_192 ?_
  refine rx_sld C.1 hX hbl hbA (by assumption) (pc := 193) d_Law_law_193 ?_
  refine q_Law_26 D b ca C (pc := 194) d_Law_law_194 (c_Net_move l D b ca ) ⟨Nat.le_of_ble_eq_true rfl, Nat.le_of_ble_eq_true rfl⟩ ⟨Nat.le_of_ble_eq_true rfl, Nat.le_of_ble_eq_true rfl⟩ (Nat.le_of_ble_eq_true rfl) ?_
  refine rx_aload_n C.1 (pc := 197) d_Law_law_197 rfl ?_
  refine rx_aload_n C.1 (pc := 198) d_Law_law_198 rfl ?_
  refine rx_iload_n C.1 (pc := 199) d_Law_law_199 rfl ?_
  refine rx_iconst C.1 (v := 1) (pc := 200) d_Law_law_200 (by decide) ?_
  refine rx_iadd C.1 (pc := 201) d_Law_law_201 ?_
  refine rx_sld C.1 hX hbl hbA (by assumption) (pc := 202) d_Law_law_202 ?_
  refine rx_aload_n C.1 (pc := 203) d_Law_law_203 rfl ?_
  refine rx_iload_n C.1 (pc := 204) d_Law_law_204 rfl ?_
  refine rx_iconst C.1 (v := 2) (pc := 205) d_Law_law_205 (by decide) ?_
  refine rx_iadd C.1 (pc := 206) d_Law_law_206 ?_
  refine rx_sld C.1 hX hbl hbA (by assumption) (pc := 207) d_Law_law_207 ?_
  refine q_Law_30 D b ca C (pc := 208) d_Law_law_208 (c_Mod_move l D b ca ) ⟨Nat.le_of_ble_eq_true rfl, Nat.le_of_ble_eq_true rfl⟩ ⟨Nat.le_of_ble_eq_true rfl, Nat.le_of_ble_eq_true rfl⟩ (Nat.le_of_ble_eq_true rfl) ?_
  exact rx_icmp_eq C.1 (pc := 211) d_Law_law_211 (tgt := 600) rfl (fun _ => kb) (fun h9 => absurd heq h9)
set_option maxHeartbeats 4000000 in
set_option maxRecDepth 100000 in
theorem tn_tick (l : Launch) (D : va_G) (b : Nat) (ca : Nat → ClassId) {p : Program} {e : Env} {s : State} {mm : MethodId} {below : List Frame} {meth : Method} {c : Code} {Q : State → Prop} {b0 L : Nat} {xs : Nat → Int32} {σ : rMem} {i : Int32} (C : rx_Cw p s mm #[.ref b0] meth c R_Law code 4 (some .boolean) (rx_fin D b ca)) (hX : va_X b0 L xs s s.heap) (hbl : b0 < s.heap.size) (hbA : ¬ rg_O (rx_fin D b ca) b0) (hv1 : vp_in (i + 1) L)  (heq : (sp_Net_tick σ (xs (i + 1).toNatClampNeg)).2 = (sp_Mod_tick ((sp_Net_tick σ (xs (i + 1).toNatClampNeg)).1) (xs (i + 1).toNatClampNeg)).2)
    (kb : rx_X p l e room_1 s mm #[.ref b0] below meth c (rg_O (rx_fin D b ca)) s.heap 96 993 Q 4 (rx_m (rx_fin D b ca) (sp_Mod_tick ((sp_Net_tick σ (xs (i + 1).toNatClampNeg)).1) (xs (i + 1).toNatClampNeg)).1) 600 [(3, .int i), (2, .ref (rg_A (rx_fin D b ca) 71)), (1, .ref (rg_A (rx_fin D b ca) 0)), (0, .ref b0)] []) : rx_X p l e room_1 s mm #[.ref b0] below meth c (rg_O (rx_fin D b ca)) s.heap 96 993 Q 4 (rx_m (rx_fin D b ca) σ) 216 [(3, .int i), (2, .ref (rg_A (rx_fin D b ca) 71)), (1, .ref (rg_A (rx_fin D b ca) 0)), (0, .ref b0)] [] := by
  refine rx_aload_n C.1 (pc := 216) d_Law_law_216 rfl ?_
  refine rx_aload_n C.1 (pc := 217) d_Law_law_217 rfl ?_
  refine rx_iload_n C.1 (pc := 218) d_Law_law_218 rfl ?_
  refine rx_iconst C.1 (v := 1) (pc := 219) d_Law_law_219 (by decide) ?_
  refine rx_iadd C.1 (pc := 220) d_Law_law_220 ?_
  refine rx_sld C.1 hX hbl hbA (by assumption) (pc := 221) d_Law_law_221 ?_
  refine q_Law_31 D b ca C (pc := 222) d_Law_law_222 (c_Net_tick l D b ca ) ⟨Nat.le_of_ble_eq_true rfl, Nat.le_of_ble_eq_true rfl⟩ ⟨Nat.le_of_ble_eq_true rfl, Nat.le_of_ble_eq_true rfl⟩ (Nat.le_of_ble_eq_true rfl) ?_
  refine rx_aload_n C.1 (pc := 225) d_Law_law_225 rfl ?_
  refine rx_aload_n C.1 (pc := 226) d_Law_law_226 rfl ?_
  refine rx_iload_n C.1 (pc := 227) d_Law_law_227 rfl ?_
  refine rx_iconst C.1 (v := 1) (pc := 228) d_Law_law_228 (by decide) ?_
  refine rx_iadd C.1 (pc := 229) d_Law_law_229 ?_
  refine rx_sld C.1 hX hbl hbA (by assumption) (pc := 230) d_Law_law_230 ?_
  refine q_Law_35 D b ca C (pc := 231) d_Law_law_231 (c_Mod_tick l D b ca ) ⟨Nat.le_of_ble_eq_true rfl, Nat.le_of_ble_eq_true rfl⟩ ⟨Nat.le_of_ble_eq_true rfl, Nat.le_of_ble_eq_true rfl⟩ (Nat.le_of_ble_eq_true rfl) ?_
  exact rx_icmp_eq C.1 (pc := 234) d_Law_law_234 (tgt := 600) rfl (fun _ => kb) (fun h9 => absurd heq h9)
set_option maxHeartbeats 4000000 in
set_option maxRecDepth 100000 in
theorem tn_say (l : Launch) (D : va_G) (b : Nat) (ca : Nat → ClassId) {p : Program} {e : Env} {s : State} {mm : MethodId} {below : List Frame} {meth : Method} {c : Code} {Q : State → Prop} {b0 L : Nat} {xs : Nat → Int32} {σ : rMem} {i : Int32} (C : rx_Cw p s mm #[.ref b0] meth c R_Law code 4 (some .boolean) (rx_fin D b ca)) (hX : va_X b0 L xs s s.heap) (hbl : b0 < s.heap.size) (hbA : ¬ rg_O (rx_fin D b ca) b0) (hv1 : vp_in (i + 1) L)  (heq : (sp_Net_say σ (xs (i + 1).toNatClampNeg)).2 = (sp_Mod_say ((sp_Net_say σ (xs (i + 1).toNatClampNeg)).1) (xs (i + 1).toNatClampNeg)).2)
    (kb : rx_X p l e room_1 s mm #[.ref b0] below meth c (rg_O (rx_fin D b ca)) s.heap 96 993 Q 4 (rx_m (rx_fin D b ca) (sp_Mod_say ((sp_Net_say σ (xs (i + 1).toNatClampNeg)).1) (xs (i + 1).toNatClampNeg)).1) 600 [(3, .int i), (2, .ref (rg_A (rx_fin D b ca) 71)), (1, .ref (rg_A (rx_fin D b ca) 0)), (0, .ref b0)] []) : rx_X p l e room_1 s mm #[.ref b0] below meth c (rg_O (rx_fin D b ca)) s.heap 96 993 Q 4 (rx_m (rx_fin D b ca) σ) 239 [(3, .int i), (2, .ref (rg_A (rx_fin D b ca) 71)), (1, .ref (rg_A (rx_fin D b ca) 0)), (0, .ref b0)] [] := by
  refine rx_aload_n C.1 (pc := 239) d_Law_law_239 rfl ?_
  refine rx_aload_n C.1 (pc := 240) d_Law_law_240 rfl ?_
  refine rx_iload_n C.1 (pc := 241) d_Law_law_241 rfl ?_
  refine rx_iconst C.1 (v := 1) (pc := 242) d_Law_law_242 (by decide) ?_
  refine rx_iadd C.1 (pc := 243) d_Law_law_243 ?_
  refine rx_sld C.1 hX hbl hbA (by assumption) (pc := 244) d_Law_law_244 ?_
  refine q_Law_36 D b ca C (pc := 245) d_Law_law_245 (c_Net_say l D b ca ) ⟨Nat.le_of_ble_eq_true rfl, Nat.le_of_ble_eq_true rfl⟩ ⟨Nat.le_of_ble_eq_true rfl, Nat.le_of_ble_eq_true rfl⟩ (Nat.le_of_ble_eq_true rfl) ?_
  refine rx_aload_n C.1 (pc := 248) d_Law_law_248 rfl ?_
  refine rx_aload_n C.1 (pc := 249) d_Law_law_249 rfl ?_
  refine rx_iload_n C.1 (pc := 250) d_Law_law_250 rfl ?_
  refine rx_iconst C.1 (v := 1) (pc := 251) d_Law_law_251 (by decide) ?_
  refine rx_iadd C.1 (pc := 252) d_Law_law_252 ?_
  refine rx_sld C.1 hX hbl hbA (by assumption) (pc := 253) d_Law_law_253 ?_
  refine q_Law_40 D b ca C (pc := 254) d_Law_law_254 (c_Mod_say l D b ca ) ⟨Nat.le_of_ble_eq_true rfl, Nat.le_of_ble_eq_true rfl⟩ ⟨Nat.le_of_ble_eq_true rfl, Nat.le_of_ble_eq_true rfl⟩ (Nat.le_of_ble_eq_true rfl) ?_
  exact rx_icmp_eq C.1 (pc := 257) d_Law_law_257 (tgt := 600) rfl (fun _ => kb) (fun h9 => absurd heq h9)
set_option maxHeartbeats 4000000 in
set_option maxRecDepth 100000 in
theorem tn_deliver (l : Launch) (D : va_G) (b : Nat) (ca : Nat → ClassId) {p : Program} {e : Env} {s : State} {mm : MethodId} {below : List Frame} {meth : Method} {c : Code} {Q : State → Prop} {b0 L : Nat} {xs : Nat → Int32} {σ : rMem} {i : Int32} (C : rx_Cw p s mm #[.ref b0] meth c R_Law code 4 (some .boolean) (rx_fin D b ca)) (hX : va_X b0 L xs s s.heap) (hbl : b0 < s.heap.size) (hbA : ¬ rg_O (rx_fin D b ca) b0) (hv1 : vp_in (i + 1) L) (hC : ¬ rv_Wire_holds σ (xs (i + 1).toNatClampNeg) = 0 → rx_iM (σ (2 + (σ 2 (xs (i + 1).toNatClampNeg).toNatClampNeg).toNatClampNeg) 3) ∧ rx_t5 (σ (2 + (σ 2 (xs (i + 1).toNatClampNeg).toNatClampNeg).toNatClampNeg) 1)) (hM : ¬ rv_Mod_isMessage ((sp_Net_deliver σ (xs (i + 1).toNatClampNeg)).1) (xs (i + 1).toNatClampNeg) = 0 → rx_iM (((sp_Net_deliver σ (xs (i + 1).toNatClampNeg)).1) 72 (9 * (xs (i + 1).toNatClampNeg) + 2).toNatClampNeg) ∧ rx_t5 (((sp_Net_deliver σ (xs (i + 1).toNatClampNeg)).1) 72 (9 * (xs (i + 1).toNatClampNeg) + 1).toNatClampNeg)) (heq : (sp_Net_deliver σ (xs (i + 1).toNatClampNeg)).2 = (sp_Mod_deliver ((sp_Net_deliver σ (xs (i + 1).toNatClampNeg)).1) (xs (i + 1).toNatClampNeg)).2)
    (kb : rx_X p l e room_1 s mm #[.ref b0] below meth c (rg_O (rx_fin D b ca)) s.heap 96 993 Q 4 (rx_m (rx_fin D b ca) (sp_Mod_deliver ((sp_Net_deliver σ (xs (i + 1).toNatClampNeg)).1) (xs (i + 1).toNatClampNeg)).1) 600 [(3, .int i), (2, .ref (rg_A (rx_fin D b ca) 71)), (1, .ref (rg_A (rx_fin D b ca) 0)), (0, .ref b0)] []) : rx_X p l e room_1 s mm #[.ref b0] below meth c (rg_O (rx_fin D b ca)) s.heap 96 993 Q 4 (rx_m (rx_fin D b ca) σ) 262 [(3, .int i), (2, .ref (rg_A (rx_fin D b ca) 71)), (1, .ref (rg_A (rx_fin D b ca) 0)), (0, .ref b0)] [] := by
  refine rx_aload_n C.1 (pc := 262) d_Law_law_262 rfl ?_
  refine rx_aload_n C.1 (pc := 263) d_Law_law_263 rfl ?_
  refine rx_iload_n C.1 (pc := 264) d_Law_law_264 rfl ?_
  refine rx_iconst C.1 (v := 1) (pc := 265) d_Law_law_265 (by decide) ?_
  refine rx_iadd C.1 (pc := 266) d_Law_law_266 ?_
  refine rx_sld C.1 hX hbl hbA (by assumption) (pc := 267) d_Law_law_267 ?_
  refine q_Law_41 D b ca C (pc := 268) d_Law_law_268 (c_Net_deliver l D b ca (by assumption)) ⟨Nat.le_of_ble_eq_true rfl, Nat.le_of_ble_eq_true rfl⟩ ⟨Nat.le_of_ble_eq_true rfl, Nat.le_of_ble_eq_true rfl⟩ (Nat.le_of_ble_eq_true rfl) ?_
  refine rx_aload_n C.1 (pc := 271) d_Law_law_271 rfl ?_
  refine rx_aload_n C.1 (pc := 272) d_Law_law_272 rfl ?_
  refine rx_iload_n C.1 (pc := 273) d_Law_law_273 rfl ?_
  refine rx_iconst C.1 (v := 1) (pc := 274) d_Law_law_274 (by decide) ?_
  refine rx_iadd C.1 (pc := 275) d_Law_law_275 ?_
  refine rx_sld C.1 hX hbl hbA (by assumption) (pc := 276) d_Law_law_276 ?_
  refine q_Law_44 D b ca C (pc := 277) d_Law_law_277 (c_Mod_deliver l D b ca (by assumption)) ⟨Nat.le_of_ble_eq_true rfl, Nat.le_of_ble_eq_true rfl⟩ ⟨Nat.le_of_ble_eq_true rfl, Nat.le_of_ble_eq_true rfl⟩ (Nat.le_of_ble_eq_true rfl) ?_
  exact rx_icmp_eq C.1 (pc := 280) d_Law_law_280 (tgt := 600) rfl (fun _ => kb) (fun h9 => absurd heq h9)
set_option maxHeartbeats 4000000 in
set_option maxRecDepth 100000 in
theorem tn_drop (l : Launch) (D : va_G) (b : Nat) (ca : Nat → ClassId) {p : Program} {e : Env} {s : State} {mm : MethodId} {below : List Frame} {meth : Method} {c : Code} {Q : State → Prop} {b0 L : Nat} {xs : Nat → Int32} {σ : rMem} {i : Int32} (C : rx_Cw p s mm #[.ref b0] meth c R_Law code 4 (some .boolean) (rx_fin D b ca)) (hX : va_X b0 L xs s s.heap) (hbl : b0 < s.heap.size) (hbA : ¬ rg_O (rx_fin D b ca) b0) (hv1 : vp_in (i + 1) L)  (heq : (sp_Net_drop σ (xs (i + 1).toNatClampNeg)).2 = (sp_Mod_drop ((sp_Net_drop σ (xs (i + 1).toNatClampNeg)).1) (xs (i + 1).toNatClampNeg)).2)
    (kb : rx_X p l e room_1 s mm #[.ref b0] below meth c (rg_O (rx_fin D b ca)) s.heap 96 993 Q 4 (rx_m (rx_fin D b ca) (sp_Mod_drop ((sp_Net_drop σ (xs (i + 1).toNatClampNeg)).1) (xs (i + 1).toNatClampNeg)).1) 600 [(3, .int i), (2, .ref (rg_A (rx_fin D b ca) 71)), (1, .ref (rg_A (rx_fin D b ca) 0)), (0, .ref b0)] []) : rx_X p l e room_1 s mm #[.ref b0] below meth c (rg_O (rx_fin D b ca)) s.heap 96 993 Q 4 (rx_m (rx_fin D b ca) σ) 285 [(3, .int i), (2, .ref (rg_A (rx_fin D b ca) 71)), (1, .ref (rg_A (rx_fin D b ca) 0)), (0, .ref b0)] [] := by
  refine rx_aload_n C.1 (pc := 285) d_Law_law_285 rfl ?_
  refine rx_aload_n C.1 (pc := 286) d_Law_law_286 rfl ?_
  refine rx_iload_n C.1 (pc := 287) d_Law_law_287 rfl ?_
  refine rx_iconst C.1 (v := 1) (pc := 288) d_Law_law_288 (by decide) ?_
  refine rx_iadd C.1 (pc := 289) d_Law_law_289 ?_
  refine rx_sld C.1 hX hbl hbA (by assumption) (pc := 290) d_Law_law_290 ?_
  refine q_Law_45 D b ca C (pc := 291) d_Law_law_291 (c_Net_drop l D b ca ) ⟨Nat.le_of_ble_eq_true rfl, Nat.le_of_ble_eq_true rfl⟩ ⟨Nat.le_of_ble_eq_true rfl, Nat.le_of_ble_eq_true rfl⟩ (Nat.le_of_ble_eq_true rfl) ?_
  refine rx_aload_n C.1 (pc := 294) d_Law_law_294 rfl ?_
  refine rx_aload_n C.1 (pc := 295) d_Law_law_295 rfl ?_
  refine rx_iload_n C.1 (pc := 296) d_Law_law_296 rfl ?_
  refine rx_iconst C.1 (v := 1) (pc := 297) d_Law_law_297 (by decide) ?_
  refine rx_iadd C.1 (pc := 298) d_Law_law_298 ?_
  refine rx_sld C.1 hX hbl hbA (by assumption) (pc := 299) d_Law_law_299 ?_
  refine q_Law_48 D b ca C (pc := 300) d_Law_law_300 (c_Mod_drop l D b ca ) ⟨Nat.le_of_ble_eq_true rfl, Nat.le_of_ble_eq_true rfl⟩ ⟨Nat.le_of_ble_eq_true rfl, Nat.le_of_ble_eq_true rfl⟩ (Nat.le_of_ble_eq_true rfl) ?_
  exact rx_icmp_eq C.1 (pc := 303) d_Law_law_303 (tgt := 600) rfl (fun _ => kb) (fun h9 => absurd heq h9)
set_option maxHeartbeats 4000000 in
set_option maxRecDepth 100000 in
theorem tn_duplicate (l : Launch) (D : va_G) (b : Nat) (ca : Nat → ClassId) {p : Program} {e : Env} {s : State} {mm : MethodId} {below : List Frame} {meth : Method} {c : Code} {Q : State → Prop} {b0 L : Nat} {xs : Nat → Int32} {σ : rMem} {i : Int32} (C : rx_Cw p s mm #[.ref b0] meth c R_Law code 4 (some .boolean) (rx_fin D b ca)) (hX : va_X b0 L xs s s.heap) (hbl : b0 < s.heap.size) (hbA : ¬ rg_O (rx_fin D b ca) b0) (hv1 : vp_in (i + 1) L)  (heq : (sp_Net_duplicate σ (xs (i + 1).toNatClampNeg)).2 = (sp_Mod_duplicate ((sp_Net_duplicate σ (xs (i + 1).toNatClampNeg)).1) (xs (i + 1).toNatClampNeg)).2)
    (kb : rx_X p l e room_1 s mm #[.ref b0] below meth c (rg_O (rx_fin D b ca)) s.heap 96 993 Q 4 (rx_m (rx_fin D b ca) (sp_Mod_duplicate ((sp_Net_duplicate σ (xs (i + 1).toNatClampNeg)).1) (xs (i + 1).toNatClampNeg)).1) 600 [(3, .int i), (2, .ref (rg_A (rx_fin D b ca) 71)), (1, .ref (rg_A (rx_fin D b ca) 0)), (0, .ref b0)] []) : rx_X p l e room_1 s mm #[.ref b0] below meth c (rg_O (rx_fin D b ca)) s.heap 96 993 Q 4 (rx_m (rx_fin D b ca) σ) 308 [(3, .int i), (2, .ref (rg_A (rx_fin D b ca) 71)), (1, .ref (rg_A (rx_fin D b ca) 0)), (0, .ref b0)] [] := by
  refine rx_aload_n C.1 (pc := 308) d_Law_law_308 rfl ?_
  refine rx_aload_n C.1 (pc := 309) d_Law_law_309 rfl ?_
  refine rx_iload_n C.1 (pc := 310) d_Law_law_310 rfl ?_
  refine rx_iconst C.1 (v := 1) (pc := 311) d_Law_law_311 (by decide) ?_
  refine rx_iadd C.1 (pc := 312) d_Law_law_312 ?_
  refine rx_sld C.1 hX hbl hbA (by assumption) (pc := 313) d_Law_law_313 ?_
  refine q_Law_49 D b ca C (pc := 314) d_Law_law_314 (c_Net_duplicate l D b ca ) ⟨Nat.le_of_ble_eq_true rfl, Nat.le_of_ble_eq_true rfl⟩ ⟨Nat.le_of_ble_eq_true rfl, Nat.le_of_ble_eq_true rfl⟩ (Nat.le_of_ble_eq_true rfl) ?_
  refine rx_aload_n C.1 (pc := 317) d_Law_law_317 rfl ?_
  refine rx_aload_n C.1 (pc := 318) d_Law_law_318 rfl ?_
  refine rx_iload_n C.1 (pc := 319) d_Law_law_319 rfl ?_
  refine rx_iconst C.1 (v := 1) (pc := 320) d_Law_law_320 (by decide) ?_
  refine rx_iadd C.1 (pc := 321) d_Law_law_321 ?_
  refine rx_sld C.1 hX hbl hbA (by assumption) (pc := 322) d_Law_law_322 ?_
  refine q_Law_52 D b ca C (pc := 323) d_Law_law_323 (c_Mod_duplicate l D b ca ) ⟨Nat.le_of_ble_eq_true rfl, Nat.le_of_ble_eq_true rfl⟩ ⟨Nat.le_of_ble_eq_true rfl, Nat.le_of_ble_eq_true rfl⟩ (Nat.le_of_ble_eq_true rfl) ?_
  exact rx_icmp_eq C.1 (pc := 326) d_Law_law_326 (tgt := 600) rfl (fun _ => kb) (fun h9 => absurd heq h9)
set_option maxHeartbeats 4000000 in
set_option maxRecDepth 100000 in
theorem tn_inject (l : Launch) (D : va_G) (b : Nat) (ca : Nat → ClassId) {p : Program} {e : Env} {s : State} {mm : MethodId} {below : List Frame} {meth : Method} {c : Code} {Q : State → Prop} {b0 L : Nat} {xs : Nat → Int32} {σ : rMem} {i : Int32} (C : rx_Cw p s mm #[.ref b0] meth c R_Law code 4 (some .boolean) (rx_fin D b ca)) (hX : va_X b0 L xs s s.heap) (hbl : b0 < s.heap.size) (hbA : ¬ rg_O (rx_fin D b ca) b0) (hv1 : vp_in (i + 1) L) (hv2 : vp_in (i + 2) L) (hv3 : vp_in (i + 3) L) (hv4 : vp_in (i + 4) L) (hv5 : vp_in (i + 5) L) (hv6 : vp_in (i + 6) L)  (heq : (sp_Net_inject σ (xs (i + 1).toNatClampNeg) (xs (i + 2).toNatClampNeg) (xs (i + 3).toNatClampNeg) (xs (i + 4).toNatClampNeg) (xs (i + 5).toNatClampNeg) (xs (i + 6).toNatClampNeg)).2 = (sp_Mod_inject ((sp_Net_inject σ (xs (i + 1).toNatClampNeg) (xs (i + 2).toNatClampNeg) (xs (i + 3).toNatClampNeg) (xs (i + 4).toNatClampNeg) (xs (i + 5).toNatClampNeg) (xs (i + 6).toNatClampNeg)).1) (xs (i + 1).toNatClampNeg) (xs (i + 2).toNatClampNeg) (xs (i + 3).toNatClampNeg) (xs (i + 4).toNatClampNeg) (xs (i + 5).toNatClampNeg) (xs (i + 6).toNatClampNeg)).2)
    (kb : rx_X p l e room_1 s mm #[.ref b0] below meth c (rg_O (rx_fin D b ca)) s.heap 96 993 Q 4 (rx_m (rx_fin D b ca) (sp_Mod_inject ((sp_Net_inject σ (xs (i + 1).toNatClampNeg) (xs (i + 2).toNatClampNeg) (xs (i + 3).toNatClampNeg) (xs (i + 4).toNatClampNeg) (xs (i + 5).toNatClampNeg) (xs (i + 6).toNatClampNeg)).1) (xs (i + 1).toNatClampNeg) (xs (i + 2).toNatClampNeg) (xs (i + 3).toNatClampNeg) (xs (i + 4).toNatClampNeg) (xs (i + 5).toNatClampNeg) (xs (i + 6).toNatClampNeg)).1) 600 [(3, .int i), (2, .ref (rg_A (rx_fin D b ca) 71)), (1, .ref (rg_A (rx_fin D b ca) 0)), (0, .ref b0)] []) : rx_X p l e room_1 s mm #[.ref b0] below meth c (rg_O (rx_fin D b ca)) s.heap 96 993 Q 4 (rx_m (rx_fin D b ca) σ) 331 [(3, .int i), (2, .ref (rg_A (rx_fin D b ca) 71)), (1, .ref (rg_A (rx_fin D b ca) 0)), (0, .ref b0)] [] := by
  refine rx_aload_n C.1 (pc := 331) d_Law_law_331 rfl ?_
  refine rx_aload_n C.1 (pc := 332) d_Law_law_332 rfl ?_
  refine rx_iload_n C.1 (pc := 333) d_Law_law_333 rfl ?_
  refine rx_iconst C.1 (v := 1) (pc := 334) d_Law_law_334 (by decide) ?_
  refine rx_iadd C.1 (pc := 335) d_Law_law_335 ?_
  refine rx_sld C.1 hX hbl hbA (by assumption) (pc := 336) d_Law_law_336 ?_
  refine rx_aload_n C.1 (pc := 337) d_Law_law_337 rfl ?_
  refine rx_iload_n C.1 (pc := 338) d_Law_law_338 rfl ?_
  refine rx_iconst C.1 (v := 2) (pc := 339) d_Law_law_339 (by decide) ?_
  refine rx_iadd C.1 (pc := 340) d_Law_law_340 ?_
  refine rx_sld C.1 hX hbl hbA (by assumption) (pc := 341) d_Law_law_341 ?_
  refine rx_aload_n C.1 (pc := 342) d_Law_law_342 rfl ?_
  refine rx_iload_n C.1 (pc := 343) d_Law_law_343 rfl ?_
  refine rx_iconst C.1 (v := 3) (pc := 344) d_Law_law_344 (by decide) ?_
  refine rx_iadd C.1 (pc := 345) d_Law_law_345 ?_
  refine rx_sld C.1 hX hbl hbA (by assumption) (pc := 346) d_Law_law_346 ?_
  refine rx_aload_n C.1 (pc := 347) d_Law_law_347 rfl ?_
  refine rx_iload_n C.1 (pc := 348) d_Law_law_348 rfl ?_
  refine rx_iconst C.1 (v := 4) (pc := 349) d_Law_law_349 (by decide) ?_
  refine rx_iadd C.1 (pc := 350) d_Law_law_350 ?_
  refine rx_sld C.1 hX hbl hbA (by assumption) (pc := 351) d_Law_law_351 ?_
  refine rx_aload_n C.1 (pc := 352) d_Law_law_352 rfl ?_
  refine rx_iload_n C.1 (pc := 353) d_Law_law_353 rfl ?_
  refine rx_iconst C.1 (v := 5) (pc := 354) d_Law_law_354 (by decide) ?_
  refine rx_iadd C.1 (pc := 355) d_Law_law_355 ?_
  refine rx_sld C.1 hX hbl hbA (by assumption) (pc := 356) d_Law_law_356 ?_
  refine rx_aload_n C.1 (pc := 357) d_Law_law_357 rfl ?_
  refine rx_iload_n C.1 (pc := 358) d_Law_law_358 rfl ?_
  refine rx_bipush C.1 (v := 6) (pc := 359) d_Law_law_359 (by decide) ?_
  refine rx_iadd C.1 (pc := 361) d_Law_law_361 ?_
  refine rx_sld C.1 hX hbl hbA (by assumption) (pc := 362) d_Law_law_362 ?_
  refine q_Law_53 D b ca C (pc := 363) d_Law_law_363 (c_Net_inject l D b ca ) ⟨Nat.le_of_ble_eq_true rfl, Nat.le_of_ble_eq_true rfl⟩ ⟨Nat.le_of_ble_eq_true rfl, Nat.le_of_ble_eq_true rfl⟩ (Nat.le_of_ble_eq_true rfl) ?_
  refine rx_aload_n C.1 (pc := 366) d_Law_law_366 rfl ?_
  refine rx_aload_n C.1 (pc := 367) d_Law_law_367 rfl ?_
  refine rx_iload_n C.1 (pc := 368) d_Law_law_368 rfl ?_
  refine rx_iconst C.1 (v := 1) (pc := 369) d_Law_law_369 (by decide) ?_
  refine rx_iadd C.1 (pc := 370) d_Law_law_370 ?_
  refine rx_sld C.1 hX hbl hbA (by assumption) (pc := 371) d_Law_law_371 ?_
  refine rx_aload_n C.1 (pc := 372) d_Law_law_372 rfl ?_
  refine rx_iload_n C.1 (pc := 373) d_Law_law_373 rfl ?_
  refine rx_iconst C.1 (v := 2) (pc := 374) d_Law_law_374 (by decide) ?_
  refine rx_iadd C.1 (pc := 375) d_Law_law_375 ?_
  refine rx_sld C.1 hX hbl hbA (by assumption) (pc := 376) d_Law_law_376 ?_
  refine rx_aload_n C.1 (pc := 377) d_Law_law_377 rfl ?_
  refine rx_iload_n C.1 (pc := 378) d_Law_law_378 rfl ?_
  refine rx_iconst C.1 (v := 3) (pc := 379) d_Law_law_379 (by decide) ?_
  refine rx_iadd C.1 (pc := 380) d_Law_law_380 ?_
  refine rx_sld C.1 hX hbl hbA (by assumption) (pc := 381) d_Law_law_381 ?_
  refine rx_aload_n C.1 (pc := 382) d_Law_law_382 rfl ?_
  refine rx_iload_n C.1 (pc := 383) d_Law_law_383 rfl ?_
  refine rx_iconst C.1 (v := 4) (pc := 384) d_Law_law_384 (by decide) ?_
  refine rx_iadd C.1 (pc := 385) d_Law_law_385 ?_
  refine rx_sld C.1 hX hbl hbA (by assumption) (pc := 386) d_Law_law_386 ?_
  refine rx_aload_n C.1 (pc := 387) d_Law_law_387 rfl ?_
  refine rx_iload_n C.1 (pc := 388) d_Law_law_388 rfl ?_
  refine rx_iconst C.1 (v := 5) (pc := 389) d_Law_law_389 (by decide) ?_
  refine rx_iadd C.1 (pc := 390) d_Law_law_390 ?_
  refine rx_sld C.1 hX hbl hbA (by assumption) (pc := 391) d_Law_law_391 ?_
  refine rx_aload_n C.1 (pc := 392) d_Law_law_392 rfl ?_
  refine rx_iload_n C.1 (pc := 393) d_Law_law_393 rfl ?_
  refine rx_bipush C.1 (v := 6) (pc := 394) d_Law_law_394 (by decide) ?_
  refine rx_iadd C.1 (pc := 396) d_Law_law_396 ?_
  refine rx_sld C.1 hX hbl hbA (by assumption) (pc := 397) d_Law_law_397 ?_
  refine q_Law_57 D b ca C (pc := 398) d_Law_law_398 (c_Mod_inject l D b ca ) ⟨Nat.le_of_ble_eq_true rfl, Nat.le_of_ble_eq_true rfl⟩ ⟨Nat.le_of_ble_eq_true rfl, Nat.le_of_ble_eq_true rfl⟩ (Nat.le_of_ble_eq_true rfl) ?_
  exact rx_icmp_eq C.1 (pc := 401) d_Law_law_401 (tgt := 600) rfl (fun _ => kb) (fun h9 => absurd heq h9)
set_option maxHeartbeats 4000000 in
set_option maxRecDepth 100000 in
theorem tn_messages (l : Launch) (D : va_G) (b : Nat) (ca : Nat → ClassId) {p : Program} {e : Env} {s : State} {mm : MethodId} {below : List Frame} {meth : Method} {c : Code} {Q : State → Prop} {b0 L : Nat} {xs : Nat → Int32} {σ : rMem} {i : Int32} (C : rx_Cw p s mm #[.ref b0] meth c R_Law code 4 (some .boolean) (rx_fin D b ca)) (hX : va_X b0 L xs s s.heap) (hbl : b0 < s.heap.size) (hbA : ¬ rg_O (rx_fin D b ca) b0)   (heq : (rv_Net_messages σ) = (rv_Mod_messages σ))
    (kb : rx_X p l e room_1 s mm #[.ref b0] below meth c (rg_O (rx_fin D b ca)) s.heap 96 993 Q 4 (rx_m (rx_fin D b ca) σ) 600 [(3, .int i), (2, .ref (rg_A (rx_fin D b ca) 71)), (1, .ref (rg_A (rx_fin D b ca) 0)), (0, .ref b0)] []) : rx_X p l e room_1 s mm #[.ref b0] below meth c (rg_O (rx_fin D b ca)) s.heap 96 993 Q 4 (rx_m (rx_fin D b ca) σ) 406 [(3, .int i), (2, .ref (rg_A (rx_fin D b ca) 71)), (1, .ref (rg_A (rx_fin D b ca) 0)), (0, .ref b0)] [] := by
  refine rx_aload_n C.1 (pc := 406) d_Law_law_406 rfl ?_
  refine q_Law_58 D b ca C (pc := 407) d_Law_law_407 (c_Net_messages l D b ca ) ⟨Nat.le_of_ble_eq_true rfl, Nat.le_of_ble_eq_true rfl⟩ ⟨Nat.le_of_ble_eq_true rfl, Nat.le_of_ble_eq_true rfl⟩ (Nat.le_of_ble_eq_true rfl) ?_
  refine rx_aload_n C.1 (pc := 410) d_Law_law_410 rfl ?_
  refine q_Law_62 D b ca C (pc := 411) d_Law_law_411 (c_Mod_messages l D b ca ) ⟨Nat.le_of_ble_eq_true rfl, Nat.le_of_ble_eq_true rfl⟩ ⟨Nat.le_of_ble_eq_true rfl, Nat.le_of_ble_eq_true rfl⟩ (Nat.le_of_ble_eq_true rfl) ?_
  exact rx_icmp_eq C.1 (pc := 414) d_Law_law_414 (tgt := 600) rfl (fun _ => kb) (fun h9 => absurd heq h9)
set_option maxHeartbeats 4000000 in
set_option maxRecDepth 100000 in
theorem tn_message (l : Launch) (D : va_G) (b : Nat) (ca : Nat → ClassId) {p : Program} {e : Env} {s : State} {mm : MethodId} {below : List Frame} {meth : Method} {c : Code} {Q : State → Prop} {b0 L : Nat} {xs : Nat → Int32} {σ : rMem} {i : Int32} (C : rx_Cw p s mm #[.ref b0] meth c R_Law code 4 (some .boolean) (rx_fin D b ca)) (hX : va_X b0 L xs s s.heap) (hbl : b0 < s.heap.size) (hbA : ¬ rg_O (rx_fin D b ca) b0) (hv1 : vp_in (i + 1) L)  (heq : (rv_Net_message σ (xs (i + 1).toNatClampNeg)) = (rv_Mod_message σ (xs (i + 1).toNatClampNeg)))
    (kb : rx_X p l e room_1 s mm #[.ref b0] below meth c (rg_O (rx_fin D b ca)) s.heap 96 993 Q 4 (rx_m (rx_fin D b ca) σ) 600 [(3, .int i), (2, .ref (rg_A (rx_fin D b ca) 71)), (1, .ref (rg_A (rx_fin D b ca) 0)), (0, .ref b0)] []) : rx_X p l e room_1 s mm #[.ref b0] below meth c (rg_O (rx_fin D b ca)) s.heap 96 993 Q 4 (rx_m (rx_fin D b ca) σ) 419 [(3, .int i), (2, .ref (rg_A (rx_fin D b ca) 71)), (1, .ref (rg_A (rx_fin D b ca) 0)), (0, .ref b0)] [] := by
  refine rx_aload_n C.1 (pc := 419) d_Law_law_419 rfl ?_
  refine rx_aload_n C.1 (pc := 420) d_Law_law_420 rfl ?_
  refine rx_iload_n C.1 (pc := 421) d_Law_law_421 rfl ?_
  refine rx_iconst C.1 (v := 1) (pc := 422) d_Law_law_422 (by decide) ?_
  refine rx_iadd C.1 (pc := 423) d_Law_law_423 ?_
  refine rx_sld C.1 hX hbl hbA (by assumption) (pc := 424) d_Law_law_424 ?_
  refine q_Law_63 D b ca C (pc := 425) d_Law_law_425 (c_Net_message l D b ca ) ⟨Nat.le_of_ble_eq_true rfl, Nat.le_of_ble_eq_true rfl⟩ ⟨Nat.le_of_ble_eq_true rfl, Nat.le_of_ble_eq_true rfl⟩ (Nat.le_of_ble_eq_true rfl) ?_
  refine rx_aload_n C.1 (pc := 428) d_Law_law_428 rfl ?_
  refine rx_aload_n C.1 (pc := 429) d_Law_law_429 rfl ?_
  refine rx_iload_n C.1 (pc := 430) d_Law_law_430 rfl ?_
  refine rx_iconst C.1 (v := 1) (pc := 431) d_Law_law_431 (by decide) ?_
  refine rx_iadd C.1 (pc := 432) d_Law_law_432 ?_
  refine rx_sld C.1 hX hbl hbA (by assumption) (pc := 433) d_Law_law_433 ?_
  refine q_Law_66 D b ca C (pc := 434) d_Law_law_434 (c_Mod_message l D b ca ) ⟨Nat.le_of_ble_eq_true rfl, Nat.le_of_ble_eq_true rfl⟩ ⟨Nat.le_of_ble_eq_true rfl, Nat.le_of_ble_eq_true rfl⟩ (Nat.le_of_ble_eq_true rfl) ?_
  exact rx_icmp_eq C.1 (pc := 437) d_Law_law_437 (tgt := 600) rfl (fun _ => kb) (fun h9 => absurd heq h9)
set_option maxHeartbeats 4000000 in
set_option maxRecDepth 100000 in
theorem tn_place (l : Launch) (D : va_G) (b : Nat) (ca : Nat → ClassId) {p : Program} {e : Env} {s : State} {mm : MethodId} {below : List Frame} {meth : Method} {c : Code} {Q : State → Prop} {b0 L : Nat} {xs : Nat → Int32} {σ : rMem} {i : Int32} (C : rx_Cw p s mm #[.ref b0] meth c R_Law code 4 (some .boolean) (rx_fin D b ca)) (hX : va_X b0 L xs s s.heap) (hbl : b0 < s.heap.size) (hbA : ¬ rg_O (rx_fin D b ca) b0) (hv1 : vp_in (i + 1) L)  (heq : (rv_Net_place σ (xs (i + 1).toNatClampNeg)) = (rv_Mod_place σ (xs (i + 1).toNatClampNeg)))
    (kb : rx_X p l e room_1 s mm #[.ref b0] below meth c (rg_O (rx_fin D b ca)) s.heap 96 993 Q 4 (rx_m (rx_fin D b ca) σ) 600 [(3, .int i), (2, .ref (rg_A (rx_fin D b ca) 71)), (1, .ref (rg_A (rx_fin D b ca) 0)), (0, .ref b0)] []) : rx_X p l e room_1 s mm #[.ref b0] below meth c (rg_O (rx_fin D b ca)) s.heap 96 993 Q 4 (rx_m (rx_fin D b ca) σ) 442 [(3, .int i), (2, .ref (rg_A (rx_fin D b ca) 71)), (1, .ref (rg_A (rx_fin D b ca) 0)), (0, .ref b0)] [] := by
  refine rx_aload_n C.1 (pc := 442) d_Law_law_442 rfl ?_
  refine rx_aload_n C.1 (pc := 443) d_Law_law_443 rfl ?_
  refine rx_iload_n C.1 (pc := 444) d_Law_law_444 rfl ?_
  refine rx_iconst C.1 (v := 1) (pc := 445) d_Law_law_445 (by decide) ?_
  refine rx_iadd C.1 (pc := 446) d_Law_law_446 ?_
  refine rx_sld C.1 hX hbl hbA (by assumption) (pc := 447) d_Law_law_447 ?_
  refine q_Law_67 D b ca C (pc := 448) d_Law_law_448 (c_Net_place l D b ca ) ⟨Nat.le_of_ble_eq_true rfl, Nat.le_of_ble_eq_true rfl⟩ ⟨Nat.le_of_ble_eq_true rfl, Nat.le_of_ble_eq_true rfl⟩ (Nat.le_of_ble_eq_true rfl) ?_
  refine rx_aload_n C.1 (pc := 451) d_Law_law_451 rfl ?_
  refine rx_aload_n C.1 (pc := 452) d_Law_law_452 rfl ?_
  refine rx_iload_n C.1 (pc := 453) d_Law_law_453 rfl ?_
  refine rx_iconst C.1 (v := 1) (pc := 454) d_Law_law_454 (by decide) ?_
  refine rx_iadd C.1 (pc := 455) d_Law_law_455 ?_
  refine rx_sld C.1 hX hbl hbA (by assumption) (pc := 456) d_Law_law_456 ?_
  refine q_Law_70 D b ca C (pc := 457) d_Law_law_457 (c_Mod_place l D b ca ) ⟨Nat.le_of_ble_eq_true rfl, Nat.le_of_ble_eq_true rfl⟩ ⟨Nat.le_of_ble_eq_true rfl, Nat.le_of_ble_eq_true rfl⟩ (Nat.le_of_ble_eq_true rfl) ?_
  exact rx_icmp_eq C.1 (pc := 460) d_Law_law_460 (tgt := 600) rfl (fun _ => kb) (fun h9 => absurd heq h9)
set_option maxHeartbeats 4000000 in
set_option maxRecDepth 100000 in
theorem tn_registered (l : Launch) (D : va_G) (b : Nat) (ca : Nat → ClassId) {p : Program} {e : Env} {s : State} {mm : MethodId} {below : List Frame} {meth : Method} {c : Code} {Q : State → Prop} {b0 L : Nat} {xs : Nat → Int32} {σ : rMem} {i : Int32} (C : rx_Cw p s mm #[.ref b0] meth c R_Law code 4 (some .boolean) (rx_fin D b ca)) (hX : va_X b0 L xs s s.heap) (hbl : b0 < s.heap.size) (hbA : ¬ rg_O (rx_fin D b ca) b0) (hv1 : vp_in (i + 1) L)  (heq : (rv_Net_registered σ (xs (i + 1).toNatClampNeg)) = (rv_Mod_registered σ (xs (i + 1).toNatClampNeg)))
    (kb : rx_X p l e room_1 s mm #[.ref b0] below meth c (rg_O (rx_fin D b ca)) s.heap 96 993 Q 4 (rx_m (rx_fin D b ca) σ) 600 [(3, .int i), (2, .ref (rg_A (rx_fin D b ca) 71)), (1, .ref (rg_A (rx_fin D b ca) 0)), (0, .ref b0)] []) : rx_X p l e room_1 s mm #[.ref b0] below meth c (rg_O (rx_fin D b ca)) s.heap 96 993 Q 4 (rx_m (rx_fin D b ca) σ) 465 [(3, .int i), (2, .ref (rg_A (rx_fin D b ca) 71)), (1, .ref (rg_A (rx_fin D b ca) 0)), (0, .ref b0)] [] := by
  refine rx_aload_n C.1 (pc := 465) d_Law_law_465 rfl ?_
  refine rx_aload_n C.1 (pc := 466) d_Law_law_466 rfl ?_
  refine rx_iload_n C.1 (pc := 467) d_Law_law_467 rfl ?_
  refine rx_iconst C.1 (v := 1) (pc := 468) d_Law_law_468 (by decide) ?_
  refine rx_iadd C.1 (pc := 469) d_Law_law_469 ?_
  refine rx_sld C.1 hX hbl hbA (by assumption) (pc := 470) d_Law_law_470 ?_
  refine q_Law_71 D b ca C (pc := 471) d_Law_law_471 (c_Net_registered l D b ca ) ⟨Nat.le_of_ble_eq_true rfl, Nat.le_of_ble_eq_true rfl⟩ ⟨Nat.le_of_ble_eq_true rfl, Nat.le_of_ble_eq_true rfl⟩ (Nat.le_of_ble_eq_true rfl) ?_
  refine rx_aload_n C.1 (pc := 474) d_Law_law_474 rfl ?_
  refine rx_aload_n C.1 (pc := 475) d_Law_law_475 rfl ?_
  refine rx_iload_n C.1 (pc := 476) d_Law_law_476 rfl ?_
  refine rx_iconst C.1 (v := 1) (pc := 477) d_Law_law_477 (by decide) ?_
  refine rx_iadd C.1 (pc := 478) d_Law_law_478 ?_
  refine rx_sld C.1 hX hbl hbA (by assumption) (pc := 479) d_Law_law_479 ?_
  refine q_Law_74 D b ca C (pc := 480) d_Law_law_480 (c_Mod_registered l D b ca ) ⟨Nat.le_of_ble_eq_true rfl, Nat.le_of_ble_eq_true rfl⟩ ⟨Nat.le_of_ble_eq_true rfl, Nat.le_of_ble_eq_true rfl⟩ (Nat.le_of_ble_eq_true rfl) ?_
  exact rx_icmp_eq C.1 (pc := 483) d_Law_law_483 (tgt := 600) rfl (fun _ => kb) (fun h9 => absurd heq h9)
set_option maxHeartbeats 4000000 in
set_option maxRecDepth 100000 in
theorem tn_open (l : Launch) (D : va_G) (b : Nat) (ca : Nat → ClassId) {p : Program} {e : Env} {s : State} {mm : MethodId} {below : List Frame} {meth : Method} {c : Code} {Q : State → Prop} {b0 L : Nat} {xs : Nat → Int32} {σ : rMem} {i : Int32} (C : rx_Cw p s mm #[.ref b0] meth c R_Law code 4 (some .boolean) (rx_fin D b ca)) (hX : va_X b0 L xs s s.heap) (hbl : b0 < s.heap.size) (hbA : ¬ rg_O (rx_fin D b ca) b0) (hv1 : vp_in (i + 1) L)  (heq : (rv_Net_open σ (xs (i + 1).toNatClampNeg)) = (rv_Mod_open σ (xs (i + 1).toNatClampNeg)))
    (kb : rx_X p l e room_1 s mm #[.ref b0] below meth c (rg_O (rx_fin D b ca)) s.heap 96 993 Q 4 (rx_m (rx_fin D b ca) σ) 600 [(3, .int i), (2, .ref (rg_A (rx_fin D b ca) 71)), (1, .ref (rg_A (rx_fin D b ca) 0)), (0, .ref b0)] []) : rx_X p l e room_1 s mm #[.ref b0] below meth c (rg_O (rx_fin D b ca)) s.heap 96 993 Q 4 (rx_m (rx_fin D b ca) σ) 488 [(3, .int i), (2, .ref (rg_A (rx_fin D b ca) 71)), (1, .ref (rg_A (rx_fin D b ca) 0)), (0, .ref b0)] [] := by
  refine rx_aload_n C.1 (pc := 488) d_Law_law_488 rfl ?_
  refine rx_aload_n C.1 (pc := 489) d_Law_law_489 rfl ?_
  refine rx_iload_n C.1 (pc := 490) d_Law_law_490 rfl ?_
  refine rx_iconst C.1 (v := 1) (pc := 491) d_Law_law_491 (by decide) ?_
  refine rx_iadd C.1 (pc := 492) d_Law_law_492 ?_
  refine rx_sld C.1 hX hbl hbA (by assumption) (pc := 493) d_Law_law_493 ?_
  refine q_Law_75 D b ca C (pc := 494) d_Law_law_494 (c_Net_open l D b ca ) ⟨Nat.le_of_ble_eq_true rfl, Nat.le_of_ble_eq_true rfl⟩ ⟨Nat.le_of_ble_eq_true rfl, Nat.le_of_ble_eq_true rfl⟩ (Nat.le_of_ble_eq_true rfl) ?_
  refine rx_aload_n C.1 (pc := 497) d_Law_law_497 rfl ?_
  refine rx_aload_n C.1 (pc := 498) d_Law_law_498 rfl ?_
  refine rx_iload_n C.1 (pc := 499) d_Law_law_499 rfl ?_
  refine rx_iconst C.1 (v := 1) (pc := 500) d_Law_law_500 (by decide) ?_
  refine rx_iadd C.1 (pc := 501) d_Law_law_501 ?_
  refine rx_sld C.1 hX hbl hbA (by assumption) (pc := 502) d_Law_law_502 ?_
  refine q_Law_78 D b ca C (pc := 503) d_Law_law_503 (c_Mod_open l D b ca ) ⟨Nat.le_of_ble_eq_true rfl, Nat.le_of_ble_eq_true rfl⟩ ⟨Nat.le_of_ble_eq_true rfl, Nat.le_of_ble_eq_true rfl⟩ (Nat.le_of_ble_eq_true rfl) ?_
  exact rx_icmp_eq C.1 (pc := 506) d_Law_law_506 (tgt := 600) rfl (fun _ => kb) (fun h9 => absurd heq h9)
set_option maxHeartbeats 4000000 in
set_option maxRecDepth 100000 in
theorem tn_binding (l : Launch) (D : va_G) (b : Nat) (ca : Nat → ClassId) {p : Program} {e : Env} {s : State} {mm : MethodId} {below : List Frame} {meth : Method} {c : Code} {Q : State → Prop} {b0 L : Nat} {xs : Nat → Int32} {σ : rMem} {i : Int32} (C : rx_Cw p s mm #[.ref b0] meth c R_Law code 4 (some .boolean) (rx_fin D b ca)) (hX : va_X b0 L xs s s.heap) (hbl : b0 < s.heap.size) (hbA : ¬ rg_O (rx_fin D b ca) b0) (hv1 : vp_in (i + 1) L)  (heq : (rv_Net_binding σ (xs (i + 1).toNatClampNeg)) = (rv_Mod_binding σ (xs (i + 1).toNatClampNeg)))
    (kb : rx_X p l e room_1 s mm #[.ref b0] below meth c (rg_O (rx_fin D b ca)) s.heap 96 993 Q 4 (rx_m (rx_fin D b ca) σ) 600 [(3, .int i), (2, .ref (rg_A (rx_fin D b ca) 71)), (1, .ref (rg_A (rx_fin D b ca) 0)), (0, .ref b0)] []) : rx_X p l e room_1 s mm #[.ref b0] below meth c (rg_O (rx_fin D b ca)) s.heap 96 993 Q 4 (rx_m (rx_fin D b ca) σ) 511 [(3, .int i), (2, .ref (rg_A (rx_fin D b ca) 71)), (1, .ref (rg_A (rx_fin D b ca) 0)), (0, .ref b0)] [] := by
  refine rx_aload_n C.1 (pc := 511) d_Law_law_511 rfl ?_
  refine rx_aload_n C.1 (pc := 512) d_Law_law_512 rfl ?_
  refine rx_iload_n C.1 (pc := 513) d_Law_law_513 rfl ?_
  refine rx_iconst C.1 (v := 1) (pc := 514) d_Law_law_514 (by decide) ?_
  refine rx_iadd C.1 (pc := 515) d_Law_law_515 ?_
  refine rx_sld C.1 hX hbl hbA (by assumption) (pc := 516) d_Law_law_516 ?_
  refine q_Law_79 D b ca C (pc := 517) d_Law_law_517 (c_Net_binding l D b ca ) ⟨Nat.le_of_ble_eq_true rfl, Nat.le_of_ble_eq_true rfl⟩ ⟨Nat.le_of_ble_eq_true rfl, Nat.le_of_ble_eq_true rfl⟩ (Nat.le_of_ble_eq_true rfl) ?_
  refine rx_aload_n C.1 (pc := 520) d_Law_law_520 rfl ?_
  refine rx_aload_n C.1 (pc := 521) d_Law_law_521 rfl ?_
  refine rx_iload_n C.1 (pc := 522) d_Law_law_522 rfl ?_
  refine rx_iconst C.1 (v := 1) (pc := 523) d_Law_law_523 (by decide) ?_
  refine rx_iadd C.1 (pc := 524) d_Law_law_524 ?_
  refine rx_sld C.1 hX hbl hbA (by assumption) (pc := 525) d_Law_law_525 ?_
  refine q_Law_82 D b ca C (pc := 526) d_Law_law_526 (c_Mod_binding l D b ca ) ⟨Nat.le_of_ble_eq_true rfl, Nat.le_of_ble_eq_true rfl⟩ ⟨Nat.le_of_ble_eq_true rfl, Nat.le_of_ble_eq_true rfl⟩ (Nat.le_of_ble_eq_true rfl) ?_
  exact rx_icmp_eq C.1 (pc := 529) d_Law_law_529 (tgt := 600) rfl (fun _ => kb) (fun h9 => absurd heq h9)
set_option maxHeartbeats 4000000 in
set_option maxRecDepth 100000 in
theorem tn_visit (l : Launch) (D : va_G) (b : Nat) (ca : Nat → ClassId) {p : Program} {e : Env} {s : State} {mm : MethodId} {below : List Frame} {meth : Method} {c : Code} {Q : State → Prop} {b0 L : Nat} {xs : Nat → Int32} {σ : rMem} {i : Int32} (C : rx_Cw p s mm #[.ref b0] meth c R_Law code 4 (some .boolean) (rx_fin D b ca)) (hX : va_X b0 L xs s s.heap) (hbl : b0 < s.heap.size) (hbA : ¬ rg_O (rx_fin D b ca) b0) (hv1 : vp_in (i + 1) L) (hv2 : vp_in (i + 2) L)  (heq : (rv_Net_visit σ (xs (i + 1).toNatClampNeg) (xs (i + 2).toNatClampNeg)) = (rv_Mod_visit σ (xs (i + 1).toNatClampNeg) (xs (i + 2).toNatClampNeg)))
    (kb : rx_X p l e room_1 s mm #[.ref b0] below meth c (rg_O (rx_fin D b ca)) s.heap 96 993 Q 4 (rx_m (rx_fin D b ca) σ) 600 [(3, .int i), (2, .ref (rg_A (rx_fin D b ca) 71)), (1, .ref (rg_A (rx_fin D b ca) 0)), (0, .ref b0)] []) : rx_X p l e room_1 s mm #[.ref b0] below meth c (rg_O (rx_fin D b ca)) s.heap 96 993 Q 4 (rx_m (rx_fin D b ca) σ) 534 [(3, .int i), (2, .ref (rg_A (rx_fin D b ca) 71)), (1, .ref (rg_A (rx_fin D b ca) 0)), (0, .ref b0)] [] := by
  refine rx_aload_n C.1 (pc := 534) d_Law_law_534 rfl ?_
  refine rx_aload_n C.1 (pc := 535) d_Law_law_535 rfl ?_
  refine rx_iload_n C.1 (pc := 536) d_Law_law_536 rfl ?_
  refine rx_iconst C.1 (v := 1) (pc := 537) d_Law_law_537 (by decide) ?_
  refine rx_iadd C.1 (pc := 538) d_Law_law_538 ?_
  refine rx_sld C.1 hX hbl hbA (by assumption) (pc := 539) d_Law_law_539 ?_
  refine rx_aload_n C.1 (pc := 540) d_Law_law_540 rfl ?_
  refine rx_iload_n C.1 (pc := 541) d_Law_law_541 rfl ?_
  refine rx_iconst C.1 (v := 2) (pc := 542) d_Law_law_542 (by decide) ?_
  refine rx_iadd C.1 (pc := 543) d_Law_law_543 ?_
  refine rx_sld C.1 hX hbl hbA (by assumption) (pc := 544) d_Law_law_544 ?_
  refine q_Law_83 D b ca C (pc := 545) d_Law_law_545 (c_Net_visit l D b ca ) ⟨Nat.le_of_ble_eq_true rfl, Nat.le_of_ble_eq_true rfl⟩ ⟨Nat.le_of_ble_eq_true rfl, Nat.le_of_ble_eq_true rfl⟩ (Nat.le_of_ble_eq_true rfl) ?_
  refine rx_aload_n C.1 (pc := 548) d_Law_law_548 rfl ?_
  refine rx_aload_n C.1 (pc := 549) d_Law_law_549 rfl ?_
  refine rx_iload_n C.1 (pc := 550) d_Law_law_550 rfl ?_
  refine rx_iconst C.1 (v := 1) (pc := 551) d_Law_law_551 (by decide) ?_
  refine rx_iadd C.1 (pc := 552) d_Law_law_552 ?_
  refine rx_sld C.1 hX hbl hbA (by assumption) (pc := 553) d_Law_law_553 ?_
  refine rx_aload_n C.1 (pc := 554) d_Law_law_554 rfl ?_
  refine rx_iload_n C.1 (pc := 555) d_Law_law_555 rfl ?_
  refine rx_iconst C.1 (v := 2) (pc := 556) d_Law_law_556 (by decide) ?_
  refine rx_iadd C.1 (pc := 557) d_Law_law_557 ?_
  refine rx_sld C.1 hX hbl hbA (by assumption) (pc := 558) d_Law_law_558 ?_
  refine q_Law_87 D b ca C (pc := 559) d_Law_law_559 (c_Mod_visit l D b ca ) ⟨Nat.le_of_ble_eq_true rfl, Nat.le_of_ble_eq_true rfl⟩ ⟨Nat.le_of_ble_eq_true rfl, Nat.le_of_ble_eq_true rfl⟩ (Nat.le_of_ble_eq_true rfl) ?_
  exact rx_icmp_eq C.1 (pc := 562) d_Law_law_562 (tgt := 600) rfl (fun _ => kb) (fun h9 => absurd heq h9)
set_option maxHeartbeats 4000000 in
set_option maxRecDepth 100000 in
theorem tn_count (l : Launch) (D : va_G) (b : Nat) (ca : Nat → ClassId) {p : Program} {e : Env} {s : State} {mm : MethodId} {below : List Frame} {meth : Method} {c : Code} {Q : State → Prop} {b0 L : Nat} {xs : Nat → Int32} {σ : rMem} {i : Int32} (C : rx_Cw p s mm #[.ref b0] meth c R_Law code 4 (some .boolean) (rx_fin D b ca)) (hX : va_X b0 L xs s s.heap) (hbl : b0 < s.heap.size) (hbA : ¬ rg_O (rx_fin D b ca) b0) (hv1 : vp_in (i + 1) L) (hv2 : vp_in (i + 2) L)  (heq : (rv_Net_count σ (xs (i + 1).toNatClampNeg) (xs (i + 2).toNatClampNeg)) = (rv_Mod_count σ (xs (i + 1).toNatClampNeg) (xs (i + 2).toNatClampNeg)))
    (kb : rx_X p l e room_1 s mm #[.ref b0] below meth c (rg_O (rx_fin D b ca)) s.heap 96 993 Q 4 (rx_m (rx_fin D b ca) σ) 600 [(3, .int i), (2, .ref (rg_A (rx_fin D b ca) 71)), (1, .ref (rg_A (rx_fin D b ca) 0)), (0, .ref b0)] []) : rx_X p l e room_1 s mm #[.ref b0] below meth c (rg_O (rx_fin D b ca)) s.heap 96 993 Q 4 (rx_m (rx_fin D b ca) σ) 567 [(3, .int i), (2, .ref (rg_A (rx_fin D b ca) 71)), (1, .ref (rg_A (rx_fin D b ca) 0)), (0, .ref b0)] [] := by
  refine rx_aload_n C.1 (pc := 567) d_Law_law_567 rfl ?_
  refine rx_aload_n C.1 (pc := 568) d_Law_law_568 rfl ?_
  refine rx_iload_n C.1 (pc := 569) d_Law_law_569 rfl ?_
  refine rx_iconst C.1 (v := 1) (pc := 570) d_Law_law_570 (by decide) ?_
  refine rx_iadd C.1 (pc := 571) d_Law_law_571 ?_
  refine rx_sld C.1 hX hbl hbA (by assumption) (pc := 572) d_Law_law_572 ?_
  refine rx_aload_n C.1 (pc := 573) d_Law_law_573 rfl ?_
  refine rx_iload_n C.1 (pc := 574) d_Law_law_574 rfl ?_
  refine rx_iconst C.1 (v := 2) (pc := 575) d_Law_law_575 (by decide) ?_
  refine rx_iadd C.1 (pc := 576) d_Law_law_576 ?_
  refine rx_sld C.1 hX hbl hbA (by assumption) (pc := 577) d_Law_law_577 ?_
  refine q_Law_88 D b ca C (pc := 578) d_Law_law_578 (c_Net_count l D b ca ) ⟨Nat.le_of_ble_eq_true rfl, Nat.le_of_ble_eq_true rfl⟩ ⟨Nat.le_of_ble_eq_true rfl, Nat.le_of_ble_eq_true rfl⟩ (Nat.le_of_ble_eq_true rfl) ?_
  refine rx_aload_n C.1 (pc := 581) d_Law_law_581 rfl ?_
  refine rx_aload_n C.1 (pc := 582) d_Law_law_582 rfl ?_
  refine rx_iload_n C.1 (pc := 583) d_Law_law_583 rfl ?_
  refine rx_iconst C.1 (v := 1) (pc := 584) d_Law_law_584 (by decide) ?_
  refine rx_iadd C.1 (pc := 585) d_Law_law_585 ?_
  refine rx_sld C.1 hX hbl hbA (by assumption) (pc := 586) d_Law_law_586 ?_
  refine rx_aload_n C.1 (pc := 587) d_Law_law_587 rfl ?_
  refine rx_iload_n C.1 (pc := 588) d_Law_law_588 rfl ?_
  refine rx_iconst C.1 (v := 2) (pc := 589) d_Law_law_589 (by decide) ?_
  refine rx_iadd C.1 (pc := 590) d_Law_law_590 ?_
  refine rx_sld C.1 hX hbl hbA (by assumption) (pc := 591) d_Law_law_591 ?_
  refine q_Law_91 D b ca C (pc := 592) d_Law_law_592 (c_Mod_count l D b ca ) ⟨Nat.le_of_ble_eq_true rfl, Nat.le_of_ble_eq_true rfl⟩ ⟨Nat.le_of_ble_eq_true rfl, Nat.le_of_ble_eq_true rfl⟩ (Nat.le_of_ble_eq_true rfl) ?_
  exact rx_icmp_eq C.1 (pc := 595) d_Law_law_595 (tgt := 600) rfl (fun _ => kb) (fun h9 => absurd heq h9)
