/-! THE LAW: its loop -/
theorem hd_gt {L i : Nat} (hL : L < 2 ^ 30) (hi : i < 2 ^ 30) : nI L - nI 7 < nI i ↔ L < i + 7 := by
  rw [Int32.lt_iff_toInt_lt, Int32.toInt_sub, nI_toInt (by omega), nI_toInt (by omega), nI_toInt (by omega), Int.bmod_eq_of_le (by omega) (by omega)]
  omega
theorem and63 (x : Int32) : ∃ v, v < 64 ∧ x &&& nI 63 = nI v := by
  refine ⟨(x.toBitVec &&& (nI 63).toBitVec).toNat, ?_, ?_⟩
  · rw [BitVec.toNat_and]
    exact Nat.lt_of_le_of_lt Nat.and_le_right (by decide)
  · apply Int32.toBitVec_inj.mp
    rw [Int32.toBitVec_and]
    apply BitVec.eq_of_toNat_eq
    have h : (x.toBitVec &&& (nI 63).toBitVec).toNat < 2 ^ 32 := BitVec.isLt _
    generalize (x.toBitVec &&& (nI 63).toBitVec).toNat = v at h
    show v = (BitVec.ofNat 32 v).toNat
    rw [BitVec.toNat_ofNat, Nat.mod_eq_of_lt h]
theorem lg_xx (x : Int64) : lg_cmp x x = nI 0 := wl_eq.mpr rfl
abbrev lwQ : zQ := fun r _ _ _ => r = some (.int (nI 1))
def lwV (G : zG) (pc i : Nat) (I : zI) (J : zJ) : Prop := V G mL_law 60 lwQ pc [(0, .ref 0), (1, .ref 2), (2, .ref 62), (3, .int (nI i))] [] (103, 121757) zsh I J
set_option maxRecDepth 100000 in
set_option maxHeartbeats 4000000 in
theorem lw_far {G : zG} {I : zI} {J : zJ} {i : Nat} (hL : zL G ≤ 3584) (hi : i + 7 ≤ zL G) (hR : REL I J) (hk : ∀ I2 J2, REL I2 J2 → lwV G 18 (i + 7) I2 J2) : lwV G 184 i I J := by
  unfold lwV at *
  refine V_aload_n dL_law_184 rfl ?_
  refine V_aload_n dL_law_185 rfl ?_
  refine V_iload_n dL_law_186 rfl ?_
  refine V_iconst (v := nI 1) dL_law_187 rfl ?_
  refine V_iaddN dL_law_188 ?_
  refine V_scrN dL_law_189 (by omega) (by omega) ?_
  obtain ⟨_, P, d1, hd1, ⟨x, rfl⟩, hc, hw⟩ := tw_far (G := G) (n := (zxs G (i + 1))) I J hR
  refine V_callV (As := [.int (zxs G (i + 1))]) (st := []) (a := 2) dL_law_190 kX11_far lL_13 (by omega) rfl rfl (Nat.le_of_ble_eq_true rfl) ⟨Nat.le_of_ble_eq_true rfl, Nat.le_of_ble_eq_true rfl⟩ ⟨Nat.le_of_ble_eq_true rfl, Nat.le_of_ble_eq_true rfl⟩ rfl ⟨rfl, by decide⟩ hc ?_
  rintro r sh' I1 J1 ⟨rfl, rfl, hP⟩
  refine V_aload_n dL_law_193 rfl ?_
  refine V_aload_n dL_law_194 rfl ?_
  refine V_iload_n dL_law_195 rfl ?_
  refine V_iconst (v := nI 1) dL_law_196 rfl ?_
  refine V_iaddN dL_law_197 ?_
  refine V_scrN dL_law_198 (by omega) (by omega) ?_
  obtain ⟨d2, hd2, hc2⟩ := hw I1 J1 hP
  refine V_callV (As := [.int (zxs G (i + 1))]) (st := [.int x]) (a := 62) dL_law_199 kX12_far lL_17 (by omega) rfl rfl (Nat.le_of_ble_eq_true rfl) ⟨Nat.le_of_ble_eq_true rfl, Nat.le_of_ble_eq_true rfl⟩ ⟨Nat.le_of_ble_eq_true rfl, Nat.le_of_ble_eq_true rfl⟩ rfl ⟨rfl, by decide⟩ hc2 ?_
  rintro r sh' I2 J2 ⟨rfl, rfl, hR2⟩
  refine V_icmp_eq (tgt := 1452) dL_law_202 rfl (fun _ => ?_) (fun h => absurd rfl h)
  refine V_iincN (ls' := [(3, .int (nI (i + 7))), (0, .ref 0), (1, .ref 2), (2, .ref 62)]) (n := 7) dL_law_1452 rfl rfl (by decide) (by decide) rfl ?_
  refine V_goto (tgt := 18) dL_law_1455 rfl ?_
  refine V_sub2 (ls' := [(0, .ref 0), (1, .ref 2), (2, .ref 62), (3, .int (nI (i + 7)))]) (List.forall_mem_cons.mpr ⟨rfl, List.forall_mem_cons.mpr ⟨rfl, List.forall_mem_cons.mpr ⟨rfl, List.forall_mem_cons.mpr ⟨rfl, fun _ h => absurd h List.not_mem_nil⟩⟩⟩⟩) ?_
  exact hk I2 J2 hR2

set_option maxRecDepth 100000 in
set_option maxHeartbeats 4000000 in
theorem lw_feed {G : zG} {I : zI} {J : zJ} {i : Nat} (hL : zL G ≤ 3584) (hi : i + 7 ≤ zL G) (hR : REL I J) (hk : ∀ I2 J2, REL I2 J2 → lwV G 18 (i + 7) I2 J2) : lwV G 207 i I J := by
  unfold lwV at *
  refine V_aload_n dL_law_207 rfl ?_
  refine V_aload_n dL_law_208 rfl ?_
  refine V_iload_n dL_law_209 rfl ?_
  refine V_iconst (v := nI 1) dL_law_210 rfl ?_
  refine V_iaddN dL_law_211 ?_
  refine V_scrN dL_law_212 (by omega) (by omega) ?_
  refine V_aload_n dL_law_213 rfl ?_
  refine V_iload_n dL_law_214 rfl ?_
  refine V_iconst (v := nI 2) dL_law_215 rfl ?_
  refine V_iaddN dL_law_216 ?_
  refine V_scrN dL_law_217 (by omega) (by omega) ?_
  refine V_aload_n dL_law_218 rfl ?_
  refine V_iload_n dL_law_219 rfl ?_
  refine V_iconst (v := nI 3) dL_law_220 rfl ?_
  refine V_iaddN dL_law_221 ?_
  refine V_scrN dL_law_222 (by omega) (by omega) ?_
  refine V_aload_n dL_law_223 rfl ?_
  refine V_iload_n dL_law_224 rfl ?_
  refine V_iconst (v := nI 4) dL_law_225 rfl ?_
  refine V_iaddN dL_law_226 ?_
  refine V_scrN dL_law_227 (by omega) (by omega) ?_
  refine V_aload_n dL_law_228 rfl ?_
  refine V_iload_n dL_law_229 rfl ?_
  refine V_iconst (v := nI 5) dL_law_230 rfl ?_
  refine V_iaddN dL_law_231 ?_
  refine V_scrN dL_law_232 (by omega) (by omega) ?_
  obtain ⟨_, P, d1, hd1, ⟨x, rfl⟩, hc, hw⟩ := tw_feed (G := G) (a := (zxs G (i + 1))) (b := (zxs G (i + 2))) (c := (zxs G (i + 3))) (d := (zxs G (i + 4))) (e := (zxs G (i + 5))) I J hR
  refine V_callV (As := [.int (zxs G (i + 1)), .int (zxs G (i + 2)), .int (zxs G (i + 3)), .int (zxs G (i + 4)), .int (zxs G (i + 5))]) (st := []) (a := 2) dL_law_233 kX11_feed lL_18 (by omega) rfl rfl (Nat.le_of_ble_eq_true rfl) ⟨Nat.le_of_ble_eq_true rfl, Nat.le_of_ble_eq_true rfl⟩ ⟨Nat.le_of_ble_eq_true rfl, Nat.le_of_ble_eq_true rfl⟩ rfl ⟨rfl, by decide⟩ hc ?_
  rintro r sh' I1 J1 ⟨rfl, rfl, hP⟩
  refine V_aload_n dL_law_236 rfl ?_
  refine V_aload_n dL_law_237 rfl ?_
  refine V_iload_n dL_law_238 rfl ?_
  refine V_iconst (v := nI 1) dL_law_239 rfl ?_
  refine V_iaddN dL_law_240 ?_
  refine V_scrN dL_law_241 (by omega) (by omega) ?_
  refine V_aload_n dL_law_242 rfl ?_
  refine V_iload_n dL_law_243 rfl ?_
  refine V_iconst (v := nI 2) dL_law_244 rfl ?_
  refine V_iaddN dL_law_245 ?_
  refine V_scrN dL_law_246 (by omega) (by omega) ?_
  refine V_aload_n dL_law_247 rfl ?_
  refine V_iload_n dL_law_248 rfl ?_
  refine V_iconst (v := nI 3) dL_law_249 rfl ?_
  refine V_iaddN dL_law_250 ?_
  refine V_scrN dL_law_251 (by omega) (by omega) ?_
  refine V_aload_n dL_law_252 rfl ?_
  refine V_iload_n dL_law_253 rfl ?_
  refine V_iconst (v := nI 4) dL_law_254 rfl ?_
  refine V_iaddN dL_law_255 ?_
  refine V_scrN dL_law_256 (by omega) (by omega) ?_
  refine V_aload_n dL_law_257 rfl ?_
  refine V_iload_n dL_law_258 rfl ?_
  refine V_iconst (v := nI 5) dL_law_259 rfl ?_
  refine V_iaddN dL_law_260 ?_
  refine V_scrN dL_law_261 (by omega) (by omega) ?_
  obtain ⟨d2, hd2, hc2⟩ := hw I1 J1 hP
  refine V_callV (As := [.int (zxs G (i + 1)), .int (zxs G (i + 2)), .int (zxs G (i + 3)), .int (zxs G (i + 4)), .int (zxs G (i + 5))]) (st := [.int x]) (a := 62) dL_law_262 kX12_feed lL_22 (by omega) rfl rfl (Nat.le_of_ble_eq_true rfl) ⟨Nat.le_of_ble_eq_true rfl, Nat.le_of_ble_eq_true rfl⟩ ⟨Nat.le_of_ble_eq_true rfl, Nat.le_of_ble_eq_true rfl⟩ rfl ⟨rfl, by decide⟩ hc2 ?_
  rintro r sh' I2 J2 ⟨rfl, rfl, hR2⟩
  refine V_icmp_eq (tgt := 1452) dL_law_265 rfl (fun _ => ?_) (fun h => absurd rfl h)
  refine V_iincN (ls' := [(3, .int (nI (i + 7))), (0, .ref 0), (1, .ref 2), (2, .ref 62)]) (n := 7) dL_law_1452 rfl rfl (by decide) (by decide) rfl ?_
  refine V_goto (tgt := 18) dL_law_1455 rfl ?_
  refine V_sub2 (ls' := [(0, .ref 0), (1, .ref 2), (2, .ref 62), (3, .int (nI (i + 7)))]) (List.forall_mem_cons.mpr ⟨rfl, List.forall_mem_cons.mpr ⟨rfl, List.forall_mem_cons.mpr ⟨rfl, List.forall_mem_cons.mpr ⟨rfl, fun _ h => absurd h List.not_mem_nil⟩⟩⟩⟩) ?_
  exact hk I2 J2 hR2

set_option maxRecDepth 100000 in
set_option maxHeartbeats 4000000 in
theorem lw_law {G : zG} {I : zI} {J : zJ} {i : Nat} (hL : zL G ≤ 3584) (hi : i + 7 ≤ zL G) (hR : REL I J) (hk : ∀ I2 J2, REL I2 J2 → lwV G 18 (i + 7) I2 J2) : lwV G 270 i I J := by
  unfold lwV at *
  refine V_aload_n dL_law_270 rfl ?_
  refine V_aload_n dL_law_271 rfl ?_
  refine V_iload_n dL_law_272 rfl ?_
  refine V_iconst (v := nI 1) dL_law_273 rfl ?_
  refine V_iaddN dL_law_274 ?_
  refine V_scrN dL_law_275 (by omega) (by omega) ?_
  obtain ⟨_, P, d1, hd1, ⟨x, rfl⟩, hc, hw⟩ := tw_law (G := G) (n := (zxs G (i + 1))) I J hR
  refine V_callV (As := [.int (zxs G (i + 1))]) (st := []) (a := 2) dL_law_276 kX11_law lL_23 (by omega) rfl rfl (Nat.le_of_ble_eq_true rfl) ⟨Nat.le_of_ble_eq_true rfl, Nat.le_of_ble_eq_true rfl⟩ ⟨Nat.le_of_ble_eq_true rfl, Nat.le_of_ble_eq_true rfl⟩ rfl ⟨rfl, by decide⟩ hc ?_
  rintro r sh' I1 J1 ⟨rfl, rfl, hP⟩
  refine V_aload_n dL_law_279 rfl ?_
  refine V_aload_n dL_law_280 rfl ?_
  refine V_iload_n dL_law_281 rfl ?_
  refine V_iconst (v := nI 1) dL_law_282 rfl ?_
  refine V_iaddN dL_law_283 ?_
  refine V_scrN dL_law_284 (by omega) (by omega) ?_
  obtain ⟨d2, hd2, hc2⟩ := hw I1 J1 hP
  refine V_callV (As := [.int (zxs G (i + 1))]) (st := [.int x]) (a := 62) dL_law_285 kX12_law lL_27 (by omega) rfl rfl (Nat.le_of_ble_eq_true rfl) ⟨Nat.le_of_ble_eq_true rfl, Nat.le_of_ble_eq_true rfl⟩ ⟨Nat.le_of_ble_eq_true rfl, Nat.le_of_ble_eq_true rfl⟩ rfl ⟨rfl, by decide⟩ hc2 ?_
  rintro r sh' I2 J2 ⟨rfl, rfl, hR2⟩
  refine V_icmp_eq (tgt := 1452) dL_law_288 rfl (fun _ => ?_) (fun h => absurd rfl h)
  refine V_iincN (ls' := [(3, .int (nI (i + 7))), (0, .ref 0), (1, .ref 2), (2, .ref 62)]) (n := 7) dL_law_1452 rfl rfl (by decide) (by decide) rfl ?_
  refine V_goto (tgt := 18) dL_law_1455 rfl ?_
  refine V_sub2 (ls' := [(0, .ref 0), (1, .ref 2), (2, .ref 62), (3, .int (nI (i + 7)))]) (List.forall_mem_cons.mpr ⟨rfl, List.forall_mem_cons.mpr ⟨rfl, List.forall_mem_cons.mpr ⟨rfl, List.forall_mem_cons.mpr ⟨rfl, fun _ h => absurd h List.not_mem_nil⟩⟩⟩⟩) ?_
  exact hk I2 J2 hR2

set_option maxRecDepth 100000 in
set_option maxHeartbeats 4000000 in
theorem lw_rule {G : zG} {I : zI} {J : zJ} {i : Nat} (hL : zL G ≤ 3584) (hi : i + 7 ≤ zL G) (hR : REL I J) (hk : ∀ I2 J2, REL I2 J2 → lwV G 18 (i + 7) I2 J2) : lwV G 293 i I J := by
  unfold lwV at *
  refine V_aload_n dL_law_293 rfl ?_
  refine V_aload_n dL_law_294 rfl ?_
  refine V_iload_n dL_law_295 rfl ?_
  refine V_iconst (v := nI 1) dL_law_296 rfl ?_
  refine V_iaddN dL_law_297 ?_
  refine V_scrN dL_law_298 (by omega) (by omega) ?_
  refine V_aload_n dL_law_299 rfl ?_
  refine V_iload_n dL_law_300 rfl ?_
  refine V_iconst (v := nI 2) dL_law_301 rfl ?_
  refine V_iaddN dL_law_302 ?_
  refine V_scrN dL_law_303 (by omega) (by omega) ?_
  obtain ⟨_, P, d1, hd1, ⟨x, rfl⟩, hc, hw⟩ := tw_rule (G := G) (r := (zxs G (i + 1))) (n := (zxs G (i + 2))) I J hR
  refine V_callV (As := [.int (zxs G (i + 1)), .int (zxs G (i + 2))]) (st := []) (a := 2) dL_law_304 kX11_rule lL_28 (by omega) rfl rfl (Nat.le_of_ble_eq_true rfl) ⟨Nat.le_of_ble_eq_true rfl, Nat.le_of_ble_eq_true rfl⟩ ⟨Nat.le_of_ble_eq_true rfl, Nat.le_of_ble_eq_true rfl⟩ rfl ⟨rfl, by decide⟩ hc ?_
  rintro r sh' I1 J1 ⟨rfl, rfl, hP⟩
  refine V_aload_n dL_law_307 rfl ?_
  refine V_aload_n dL_law_308 rfl ?_
  refine V_iload_n dL_law_309 rfl ?_
  refine V_iconst (v := nI 1) dL_law_310 rfl ?_
  refine V_iaddN dL_law_311 ?_
  refine V_scrN dL_law_312 (by omega) (by omega) ?_
  refine V_aload_n dL_law_313 rfl ?_
  refine V_iload_n dL_law_314 rfl ?_
  refine V_iconst (v := nI 2) dL_law_315 rfl ?_
  refine V_iaddN dL_law_316 ?_
  refine V_scrN dL_law_317 (by omega) (by omega) ?_
  obtain ⟨d2, hd2, hc2⟩ := hw I1 J1 hP
  refine V_callV (As := [.int (zxs G (i + 1)), .int (zxs G (i + 2))]) (st := [.int x]) (a := 62) dL_law_318 kX12_rule lL_32 (by omega) rfl rfl (Nat.le_of_ble_eq_true rfl) ⟨Nat.le_of_ble_eq_true rfl, Nat.le_of_ble_eq_true rfl⟩ ⟨Nat.le_of_ble_eq_true rfl, Nat.le_of_ble_eq_true rfl⟩ rfl ⟨rfl, by decide⟩ hc2 ?_
  rintro r sh' I2 J2 ⟨rfl, rfl, hR2⟩
  refine V_icmp_eq (tgt := 1452) dL_law_321 rfl (fun _ => ?_) (fun h => absurd rfl h)
  refine V_iincN (ls' := [(3, .int (nI (i + 7))), (0, .ref 0), (1, .ref 2), (2, .ref 62)]) (n := 7) dL_law_1452 rfl rfl (by decide) (by decide) rfl ?_
  refine V_goto (tgt := 18) dL_law_1455 rfl ?_
  refine V_sub2 (ls' := [(0, .ref 0), (1, .ref 2), (2, .ref 62), (3, .int (nI (i + 7)))]) (List.forall_mem_cons.mpr ⟨rfl, List.forall_mem_cons.mpr ⟨rfl, List.forall_mem_cons.mpr ⟨rfl, List.forall_mem_cons.mpr ⟨rfl, fun _ h => absurd h List.not_mem_nil⟩⟩⟩⟩) ?_
  exact hk I2 J2 hR2

set_option maxRecDepth 100000 in
set_option maxHeartbeats 4000000 in
theorem lw_ground {G : zG} {I : zI} {J : zJ} {i : Nat} (hL : zL G ≤ 3584) (hi : i + 7 ≤ zL G) (hR : REL I J) (hk : ∀ I2 J2, REL I2 J2 → lwV G 18 (i + 7) I2 J2) : lwV G 326 i I J := by
  unfold lwV at *
  refine V_aload_n dL_law_326 rfl ?_
  refine V_aload_n dL_law_327 rfl ?_
  refine V_iload_n dL_law_328 rfl ?_
  refine V_iconst (v := nI 1) dL_law_329 rfl ?_
  refine V_iaddN dL_law_330 ?_
  refine V_scrN dL_law_331 (by omega) (by omega) ?_
  obtain ⟨_, P, d1, hd1, ⟨x, rfl⟩, hc, hw⟩ := tw_ground (G := G) (n := (zxs G (i + 1))) I J hR
  refine V_callV (As := [.int (zxs G (i + 1))]) (st := []) (a := 2) dL_law_332 kX11_ground lL_33 (by omega) rfl rfl (Nat.le_of_ble_eq_true rfl) ⟨Nat.le_of_ble_eq_true rfl, Nat.le_of_ble_eq_true rfl⟩ ⟨Nat.le_of_ble_eq_true rfl, Nat.le_of_ble_eq_true rfl⟩ rfl ⟨rfl, by decide⟩ hc ?_
  rintro r sh' I1 J1 ⟨rfl, rfl, hP⟩
  refine V_aload_n dL_law_335 rfl ?_
  refine V_aload_n dL_law_336 rfl ?_
  refine V_iload_n dL_law_337 rfl ?_
  refine V_iconst (v := nI 1) dL_law_338 rfl ?_
  refine V_iaddN dL_law_339 ?_
  refine V_scrN dL_law_340 (by omega) (by omega) ?_
  obtain ⟨d2, hd2, hc2⟩ := hw I1 J1 hP
  refine V_callV (As := [.int (zxs G (i + 1))]) (st := [.int x]) (a := 62) dL_law_341 kX12_ground lL_36 (by omega) rfl rfl (Nat.le_of_ble_eq_true rfl) ⟨Nat.le_of_ble_eq_true rfl, Nat.le_of_ble_eq_true rfl⟩ ⟨Nat.le_of_ble_eq_true rfl, Nat.le_of_ble_eq_true rfl⟩ rfl ⟨rfl, by decide⟩ hc2 ?_
  rintro r sh' I2 J2 ⟨rfl, rfl, hR2⟩
  refine V_icmp_eq (tgt := 1452) dL_law_344 rfl (fun _ => ?_) (fun h => absurd rfl h)
  refine V_iincN (ls' := [(3, .int (nI (i + 7))), (0, .ref 0), (1, .ref 2), (2, .ref 62)]) (n := 7) dL_law_1452 rfl rfl (by decide) (by decide) rfl ?_
  refine V_goto (tgt := 18) dL_law_1455 rfl ?_
  refine V_sub2 (ls' := [(0, .ref 0), (1, .ref 2), (2, .ref 62), (3, .int (nI (i + 7)))]) (List.forall_mem_cons.mpr ⟨rfl, List.forall_mem_cons.mpr ⟨rfl, List.forall_mem_cons.mpr ⟨rfl, List.forall_mem_cons.mpr ⟨rfl, fun _ h => absurd h List.not_mem_nil⟩⟩⟩⟩) ?_
  exact hk I2 J2 hR2

set_option maxRecDepth 100000 in
set_option maxHeartbeats 4000000 in
theorem lw_turn {G : zG} {I : zI} {J : zJ} {i : Nat} (hL : zL G ≤ 3584) (hi : i + 7 ≤ zL G) (hR : REL I J) (hk : ∀ I2 J2, REL I2 J2 → lwV G 18 (i + 7) I2 J2) : lwV G 349 i I J := by
  unfold lwV at *
  refine V_aload_n dL_law_349 rfl ?_
  refine V_aload_n dL_law_350 rfl ?_
  refine V_iload_n dL_law_351 rfl ?_
  refine V_iconst (v := nI 1) dL_law_352 rfl ?_
  refine V_iaddN dL_law_353 ?_
  refine V_scrN dL_law_354 (by omega) (by omega) ?_
  refine V_aload_n dL_law_355 rfl ?_
  refine V_iload_n dL_law_356 rfl ?_
  refine V_iconst (v := nI 2) dL_law_357 rfl ?_
  refine V_iaddN dL_law_358 ?_
  refine V_scrN dL_law_359 (by omega) (by omega) ?_
  refine V_aload_n dL_law_360 rfl ?_
  refine V_iload_n dL_law_361 rfl ?_
  refine V_iconst (v := nI 3) dL_law_362 rfl ?_
  refine V_iaddN dL_law_363 ?_
  refine V_scrN dL_law_364 (by omega) (by omega) ?_
  obtain ⟨_, P, d1, hd1, ⟨x, rfl⟩, hc, hw⟩ := tw_turn (G := G) (a := (zxs G (i + 1))) (b := (zxs G (i + 2))) (c := (zxs G (i + 3))) I J hR
  refine V_callV (As := [.int (zxs G (i + 1)), .int (zxs G (i + 2)), .int (zxs G (i + 3))]) (st := []) (a := 2) dL_law_365 kX11_turn lL_37 (by omega) rfl rfl (Nat.le_of_ble_eq_true rfl) ⟨Nat.le_of_ble_eq_true rfl, Nat.le_of_ble_eq_true rfl⟩ ⟨Nat.le_of_ble_eq_true rfl, Nat.le_of_ble_eq_true rfl⟩ rfl ⟨rfl, by decide⟩ hc ?_
  rintro r sh' I1 J1 ⟨rfl, rfl, hP⟩
  refine V_aload_n dL_law_368 rfl ?_
  refine V_aload_n dL_law_369 rfl ?_
  refine V_iload_n dL_law_370 rfl ?_
  refine V_iconst (v := nI 1) dL_law_371 rfl ?_
  refine V_iaddN dL_law_372 ?_
  refine V_scrN dL_law_373 (by omega) (by omega) ?_
  refine V_aload_n dL_law_374 rfl ?_
  refine V_iload_n dL_law_375 rfl ?_
  refine V_iconst (v := nI 2) dL_law_376 rfl ?_
  refine V_iaddN dL_law_377 ?_
  refine V_scrN dL_law_378 (by omega) (by omega) ?_
  refine V_aload_n dL_law_379 rfl ?_
  refine V_iload_n dL_law_380 rfl ?_
  refine V_iconst (v := nI 3) dL_law_381 rfl ?_
  refine V_iaddN dL_law_382 ?_
  refine V_scrN dL_law_383 (by omega) (by omega) ?_
  obtain ⟨d2, hd2, hc2⟩ := hw I1 J1 hP
  refine V_callV (As := [.int (zxs G (i + 1)), .int (zxs G (i + 2)), .int (zxs G (i + 3))]) (st := [.int x]) (a := 62) dL_law_384 kX12_turn lL_41 (by omega) rfl rfl (Nat.le_of_ble_eq_true rfl) ⟨Nat.le_of_ble_eq_true rfl, Nat.le_of_ble_eq_true rfl⟩ ⟨Nat.le_of_ble_eq_true rfl, Nat.le_of_ble_eq_true rfl⟩ rfl ⟨rfl, by decide⟩ hc2 ?_
  rintro r sh' I2 J2 ⟨rfl, rfl, hR2⟩
  refine V_icmp_eq (tgt := 1452) dL_law_387 rfl (fun _ => ?_) (fun h => absurd rfl h)
  refine V_iincN (ls' := [(3, .int (nI (i + 7))), (0, .ref 0), (1, .ref 2), (2, .ref 62)]) (n := 7) dL_law_1452 rfl rfl (by decide) (by decide) rfl ?_
  refine V_goto (tgt := 18) dL_law_1455 rfl ?_
  refine V_sub2 (ls' := [(0, .ref 0), (1, .ref 2), (2, .ref 62), (3, .int (nI (i + 7)))]) (List.forall_mem_cons.mpr ⟨rfl, List.forall_mem_cons.mpr ⟨rfl, List.forall_mem_cons.mpr ⟨rfl, List.forall_mem_cons.mpr ⟨rfl, fun _ h => absurd h List.not_mem_nil⟩⟩⟩⟩) ?_
  exact hk I2 J2 hR2

set_option maxRecDepth 100000 in
set_option maxHeartbeats 4000000 in
theorem lw_points {G : zG} {I : zI} {J : zJ} {i : Nat} (hL : zL G ≤ 3584) (hi : i + 7 ≤ zL G) (hR : REL I J) (hk : ∀ I2 J2, REL I2 J2 → lwV G 18 (i + 7) I2 J2) : lwV G 392 i I J := by
  unfold lwV at *
  refine V_aload_n dL_law_392 rfl ?_
  refine V_aload_n dL_law_393 rfl ?_
  refine V_iload_n dL_law_394 rfl ?_
  refine V_iconst (v := nI 1) dL_law_395 rfl ?_
  refine V_iaddN dL_law_396 ?_
  refine V_scrN dL_law_397 (by omega) (by omega) ?_
  refine V_aload_n dL_law_398 rfl ?_
  refine V_iload_n dL_law_399 rfl ?_
  refine V_iconst (v := nI 2) dL_law_400 rfl ?_
  refine V_iaddN dL_law_401 ?_
  refine V_scrN dL_law_402 (by omega) (by omega) ?_
  obtain ⟨_, P, d1, hd1, ⟨x, rfl⟩, hc, hw⟩ := tw_points (G := G) (a := (zxs G (i + 1))) (b := (zxs G (i + 2))) I J hR
  refine V_callV (As := [.int (zxs G (i + 1)), .int (zxs G (i + 2))]) (st := []) (a := 2) dL_law_403 kX11_points lL_42 (by omega) rfl rfl (Nat.le_of_ble_eq_true rfl) ⟨Nat.le_of_ble_eq_true rfl, Nat.le_of_ble_eq_true rfl⟩ ⟨Nat.le_of_ble_eq_true rfl, Nat.le_of_ble_eq_true rfl⟩ rfl ⟨rfl, by decide⟩ hc ?_
  rintro r sh' I1 J1 ⟨rfl, rfl, hP⟩
  refine V_aload_n dL_law_406 rfl ?_
  refine V_aload_n dL_law_407 rfl ?_
  refine V_iload_n dL_law_408 rfl ?_
  refine V_iconst (v := nI 1) dL_law_409 rfl ?_
  refine V_iaddN dL_law_410 ?_
  refine V_scrN dL_law_411 (by omega) (by omega) ?_
  refine V_aload_n dL_law_412 rfl ?_
  refine V_iload_n dL_law_413 rfl ?_
  refine V_iconst (v := nI 2) dL_law_414 rfl ?_
  refine V_iaddN dL_law_415 ?_
  refine V_scrN dL_law_416 (by omega) (by omega) ?_
  obtain ⟨d2, hd2, hc2⟩ := hw I1 J1 hP
  refine V_callV (As := [.int (zxs G (i + 1)), .int (zxs G (i + 2))]) (st := [.int x]) (a := 62) dL_law_417 kX12_points lL_45 (by omega) rfl rfl (Nat.le_of_ble_eq_true rfl) ⟨Nat.le_of_ble_eq_true rfl, Nat.le_of_ble_eq_true rfl⟩ ⟨Nat.le_of_ble_eq_true rfl, Nat.le_of_ble_eq_true rfl⟩ rfl ⟨rfl, by decide⟩ hc2 ?_
  rintro r sh' I2 J2 ⟨rfl, rfl, hR2⟩
  refine V_icmp_eq (tgt := 1452) dL_law_420 rfl (fun _ => ?_) (fun h => absurd rfl h)
  refine V_iincN (ls' := [(3, .int (nI (i + 7))), (0, .ref 0), (1, .ref 2), (2, .ref 62)]) (n := 7) dL_law_1452 rfl rfl (by decide) (by decide) rfl ?_
  refine V_goto (tgt := 18) dL_law_1455 rfl ?_
  refine V_sub2 (ls' := [(0, .ref 0), (1, .ref 2), (2, .ref 62), (3, .int (nI (i + 7)))]) (List.forall_mem_cons.mpr ⟨rfl, List.forall_mem_cons.mpr ⟨rfl, List.forall_mem_cons.mpr ⟨rfl, List.forall_mem_cons.mpr ⟨rfl, fun _ h => absurd h List.not_mem_nil⟩⟩⟩⟩) ?_
  exact hk I2 J2 hR2

set_option maxRecDepth 100000 in
set_option maxHeartbeats 4000000 in
theorem lw_chance {G : zG} {I : zI} {J : zJ} {i : Nat} (hL : zL G ≤ 3584) (hi : i + 7 ≤ zL G) (hR : REL I J) (hk : ∀ I2 J2, REL I2 J2 → lwV G 18 (i + 7) I2 J2) : lwV G 425 i I J := by
  unfold lwV at *
  refine V_aload_n dL_law_425 rfl ?_
  refine V_aload_n dL_law_426 rfl ?_
  refine V_iload_n dL_law_427 rfl ?_
  refine V_iconst (v := nI 1) dL_law_428 rfl ?_
  refine V_iaddN dL_law_429 ?_
  refine V_scrN dL_law_430 (by omega) (by omega) ?_
  refine V_aload_n dL_law_431 rfl ?_
  refine V_iload_n dL_law_432 rfl ?_
  refine V_iconst (v := nI 2) dL_law_433 rfl ?_
  refine V_iaddN dL_law_434 ?_
  refine V_scrN dL_law_435 (by omega) (by omega) ?_
  refine V_aload_n dL_law_436 rfl ?_
  refine V_iload_n dL_law_437 rfl ?_
  refine V_iconst (v := nI 3) dL_law_438 rfl ?_
  refine V_iaddN dL_law_439 ?_
  refine V_scrN dL_law_440 (by omega) (by omega) ?_
  refine V_aload_n dL_law_441 rfl ?_
  refine V_iload_n dL_law_442 rfl ?_
  refine V_iconst (v := nI 4) dL_law_443 rfl ?_
  refine V_iaddN dL_law_444 ?_
  refine V_scrN dL_law_445 (by omega) (by omega) ?_
  refine V_aload_n dL_law_446 rfl ?_
  refine V_iload_n dL_law_447 rfl ?_
  refine V_iconst (v := nI 5) dL_law_448 rfl ?_
  refine V_iaddN dL_law_449 ?_
  refine V_scrN dL_law_450 (by omega) (by omega) ?_
  obtain ⟨_, P, d1, hd1, ⟨x, rfl⟩, hc, hw⟩ := tw_chance (G := G) (a := (zxs G (i + 1))) (b := (zxs G (i + 2))) (c := (zxs G (i + 3))) (d := (zxs G (i + 4))) (e := (zxs G (i + 5))) I J hR
  refine V_callV (As := [.int (zxs G (i + 1)), .int (zxs G (i + 2)), .int (zxs G (i + 3)), .int (zxs G (i + 4)), .int (zxs G (i + 5))]) (st := []) (a := 2) dL_law_451 kX11_chance lL_46 (by omega) rfl rfl (Nat.le_of_ble_eq_true rfl) ⟨Nat.le_of_ble_eq_true rfl, Nat.le_of_ble_eq_true rfl⟩ ⟨Nat.le_of_ble_eq_true rfl, Nat.le_of_ble_eq_true rfl⟩ rfl ⟨rfl, by decide⟩ hc ?_
  rintro r sh' I1 J1 ⟨rfl, rfl, hP⟩
  refine V_aload_n dL_law_454 rfl ?_
  refine V_aload_n dL_law_455 rfl ?_
  refine V_iload_n dL_law_456 rfl ?_
  refine V_iconst (v := nI 1) dL_law_457 rfl ?_
  refine V_iaddN dL_law_458 ?_
  refine V_scrN dL_law_459 (by omega) (by omega) ?_
  refine V_aload_n dL_law_460 rfl ?_
  refine V_iload_n dL_law_461 rfl ?_
  refine V_iconst (v := nI 2) dL_law_462 rfl ?_
  refine V_iaddN dL_law_463 ?_
  refine V_scrN dL_law_464 (by omega) (by omega) ?_
  refine V_aload_n dL_law_465 rfl ?_
  refine V_iload_n dL_law_466 rfl ?_
  refine V_iconst (v := nI 3) dL_law_467 rfl ?_
  refine V_iaddN dL_law_468 ?_
  refine V_scrN dL_law_469 (by omega) (by omega) ?_
  refine V_aload_n dL_law_470 rfl ?_
  refine V_iload_n dL_law_471 rfl ?_
  refine V_iconst (v := nI 4) dL_law_472 rfl ?_
  refine V_iaddN dL_law_473 ?_
  refine V_scrN dL_law_474 (by omega) (by omega) ?_
  refine V_aload_n dL_law_475 rfl ?_
  refine V_iload_n dL_law_476 rfl ?_
  refine V_iconst (v := nI 5) dL_law_477 rfl ?_
  refine V_iaddN dL_law_478 ?_
  refine V_scrN dL_law_479 (by omega) (by omega) ?_
  obtain ⟨d2, hd2, hc2⟩ := hw I1 J1 hP
  refine V_callV (As := [.int (zxs G (i + 1)), .int (zxs G (i + 2)), .int (zxs G (i + 3)), .int (zxs G (i + 4)), .int (zxs G (i + 5))]) (st := [.int x]) (a := 62) dL_law_480 kX12_chance lL_49 (by omega) rfl rfl (Nat.le_of_ble_eq_true rfl) ⟨Nat.le_of_ble_eq_true rfl, Nat.le_of_ble_eq_true rfl⟩ ⟨Nat.le_of_ble_eq_true rfl, Nat.le_of_ble_eq_true rfl⟩ rfl ⟨rfl, by decide⟩ hc2 ?_
  rintro r sh' I2 J2 ⟨rfl, rfl, hR2⟩
  refine V_icmp_eq (tgt := 1452) dL_law_483 rfl (fun _ => ?_) (fun h => absurd rfl h)
  refine V_iincN (ls' := [(3, .int (nI (i + 7))), (0, .ref 0), (1, .ref 2), (2, .ref 62)]) (n := 7) dL_law_1452 rfl rfl (by decide) (by decide) rfl ?_
  refine V_goto (tgt := 18) dL_law_1455 rfl ?_
  refine V_sub2 (ls' := [(0, .ref 0), (1, .ref 2), (2, .ref 62), (3, .int (nI (i + 7)))]) (List.forall_mem_cons.mpr ⟨rfl, List.forall_mem_cons.mpr ⟨rfl, List.forall_mem_cons.mpr ⟨rfl, List.forall_mem_cons.mpr ⟨rfl, fun _ h => absurd h List.not_mem_nil⟩⟩⟩⟩) ?_
  exact hk I2 J2 hR2

set_option maxRecDepth 100000 in
set_option maxHeartbeats 4000000 in
theorem lw_best {G : zG} {I : zI} {J : zJ} {i : Nat} (hL : zL G ≤ 3584) (hi : i + 7 ≤ zL G) (hR : REL I J) (hk : ∀ I2 J2, REL I2 J2 → lwV G 18 (i + 7) I2 J2) : lwV G 488 i I J := by
  unfold lwV at *
  refine V_aload_n dL_law_488 rfl ?_
  refine V_aload_n dL_law_489 rfl ?_
  refine V_iload_n dL_law_490 rfl ?_
  refine V_iconst (v := nI 1) dL_law_491 rfl ?_
  refine V_iaddN dL_law_492 ?_
  refine V_scrN dL_law_493 (by omega) (by omega) ?_
  refine V_aload_n dL_law_494 rfl ?_
  refine V_iload_n dL_law_495 rfl ?_
  refine V_iconst (v := nI 2) dL_law_496 rfl ?_
  refine V_iaddN dL_law_497 ?_
  refine V_scrN dL_law_498 (by omega) (by omega) ?_
  refine V_aload_n dL_law_499 rfl ?_
  refine V_iload_n dL_law_500 rfl ?_
  refine V_iconst (v := nI 3) dL_law_501 rfl ?_
  refine V_iaddN dL_law_502 ?_
  refine V_scrN dL_law_503 (by omega) (by omega) ?_
  refine V_aload_n dL_law_504 rfl ?_
  refine V_iload_n dL_law_505 rfl ?_
  refine V_iconst (v := nI 4) dL_law_506 rfl ?_
  refine V_iaddN dL_law_507 ?_
  refine V_scrN dL_law_508 (by omega) (by omega) ?_
  obtain ⟨_, P, d1, hd1, ⟨x, rfl⟩, hc, hw⟩ := tw_best (G := G) (a := (zxs G (i + 1))) (b := (zxs G (i + 2))) (c := (zxs G (i + 3))) (d := (zxs G (i + 4))) I J hR
  refine V_callV (As := [.int (zxs G (i + 1)), .int (zxs G (i + 2)), .int (zxs G (i + 3)), .int (zxs G (i + 4))]) (st := []) (a := 2) dL_law_509 kX11_best lL_50 (by omega) rfl rfl (Nat.le_of_ble_eq_true rfl) ⟨Nat.le_of_ble_eq_true rfl, Nat.le_of_ble_eq_true rfl⟩ ⟨Nat.le_of_ble_eq_true rfl, Nat.le_of_ble_eq_true rfl⟩ rfl ⟨rfl, by decide⟩ hc ?_
  rintro r sh' I1 J1 ⟨rfl, rfl, hP⟩
  refine V_aload_n dL_law_512 rfl ?_
  refine V_aload_n dL_law_513 rfl ?_
  refine V_iload_n dL_law_514 rfl ?_
  refine V_iconst (v := nI 1) dL_law_515 rfl ?_
  refine V_iaddN dL_law_516 ?_
  refine V_scrN dL_law_517 (by omega) (by omega) ?_
  refine V_aload_n dL_law_518 rfl ?_
  refine V_iload_n dL_law_519 rfl ?_
  refine V_iconst (v := nI 2) dL_law_520 rfl ?_
  refine V_iaddN dL_law_521 ?_
  refine V_scrN dL_law_522 (by omega) (by omega) ?_
  refine V_aload_n dL_law_523 rfl ?_
  refine V_iload_n dL_law_524 rfl ?_
  refine V_iconst (v := nI 3) dL_law_525 rfl ?_
  refine V_iaddN dL_law_526 ?_
  refine V_scrN dL_law_527 (by omega) (by omega) ?_
  refine V_aload_n dL_law_528 rfl ?_
  refine V_iload_n dL_law_529 rfl ?_
  refine V_iconst (v := nI 4) dL_law_530 rfl ?_
  refine V_iaddN dL_law_531 ?_
  refine V_scrN dL_law_532 (by omega) (by omega) ?_
  obtain ⟨d2, hd2, hc2⟩ := hw I1 J1 hP
  refine V_callV (As := [.int (zxs G (i + 1)), .int (zxs G (i + 2)), .int (zxs G (i + 3)), .int (zxs G (i + 4))]) (st := [.long x]) (a := 62) dL_law_533 kX12_best lL_54 (by omega) rfl rfl (Nat.le_of_ble_eq_true rfl) ⟨Nat.le_of_ble_eq_true rfl, Nat.le_of_ble_eq_true rfl⟩ ⟨Nat.le_of_ble_eq_true rfl, Nat.le_of_ble_eq_true rfl⟩ rfl ⟨rfl, by decide⟩ hc2 ?_
  rintro r sh' I2 J2 ⟨rfl, rfl, hR2⟩
  refine V_lcmp dL_law_536 (V_eqI (y := nI 0) (lg_xx x) ?_)
  refine V_if_eq (tgt := 1452) dL_law_537 rfl (fun _ => ?_) (fun h => absurd h (by decide))
  refine V_iincN (ls' := [(3, .int (nI (i + 7))), (0, .ref 0), (1, .ref 2), (2, .ref 62)]) (n := 7) dL_law_1452 rfl rfl (by decide) (by decide) rfl ?_
  refine V_goto (tgt := 18) dL_law_1455 rfl ?_
  refine V_sub2 (ls' := [(0, .ref 0), (1, .ref 2), (2, .ref 62), (3, .int (nI (i + 7)))]) (List.forall_mem_cons.mpr ⟨rfl, List.forall_mem_cons.mpr ⟨rfl, List.forall_mem_cons.mpr ⟨rfl, List.forall_mem_cons.mpr ⟨rfl, fun _ h => absurd h List.not_mem_nil⟩⟩⟩⟩) ?_
  exact hk I2 J2 hR2

set_option maxRecDepth 100000 in
set_option maxHeartbeats 4000000 in
theorem lw_likely {G : zG} {I : zI} {J : zJ} {i : Nat} (hL : zL G ≤ 3584) (hi : i + 7 ≤ zL G) (hR : REL I J) (hk : ∀ I2 J2, REL I2 J2 → lwV G 18 (i + 7) I2 J2) : lwV G 542 i I J := by
  unfold lwV at *
  refine V_aload_n dL_law_542 rfl ?_
  refine V_aload_n dL_law_543 rfl ?_
  refine V_iload_n dL_law_544 rfl ?_
  refine V_iconst (v := nI 1) dL_law_545 rfl ?_
  refine V_iaddN dL_law_546 ?_
  refine V_scrN dL_law_547 (by omega) (by omega) ?_
  refine V_aload_n dL_law_548 rfl ?_
  refine V_iload_n dL_law_549 rfl ?_
  refine V_iconst (v := nI 2) dL_law_550 rfl ?_
  refine V_iaddN dL_law_551 ?_
  refine V_scrN dL_law_552 (by omega) (by omega) ?_
  refine V_aload_n dL_law_553 rfl ?_
  refine V_iload_n dL_law_554 rfl ?_
  refine V_iconst (v := nI 3) dL_law_555 rfl ?_
  refine V_iaddN dL_law_556 ?_
  refine V_scrN dL_law_557 (by omega) (by omega) ?_
  refine V_aload_n dL_law_558 rfl ?_
  refine V_iload_n dL_law_559 rfl ?_
  refine V_iconst (v := nI 4) dL_law_560 rfl ?_
  refine V_iaddN dL_law_561 ?_
  refine V_scrN dL_law_562 (by omega) (by omega) ?_
  obtain ⟨_, P, d1, hd1, ⟨x, rfl⟩, hc, hw⟩ := tw_likely (G := G) (a := (zxs G (i + 1))) (b := (zxs G (i + 2))) (c := (zxs G (i + 3))) (d := (zxs G (i + 4))) I J hR
  refine V_callV (As := [.int (zxs G (i + 1)), .int (zxs G (i + 2)), .int (zxs G (i + 3)), .int (zxs G (i + 4))]) (st := []) (a := 2) dL_law_563 kX11_likely lL_55 (by omega) rfl rfl (Nat.le_of_ble_eq_true rfl) ⟨Nat.le_of_ble_eq_true rfl, Nat.le_of_ble_eq_true rfl⟩ ⟨Nat.le_of_ble_eq_true rfl, Nat.le_of_ble_eq_true rfl⟩ rfl ⟨rfl, by decide⟩ hc ?_
  rintro r sh' I1 J1 ⟨rfl, rfl, hP⟩
  refine V_aload_n dL_law_566 rfl ?_
  refine V_aload_n dL_law_567 rfl ?_
  refine V_iload_n dL_law_568 rfl ?_
  refine V_iconst (v := nI 1) dL_law_569 rfl ?_
  refine V_iaddN dL_law_570 ?_
  refine V_scrN dL_law_571 (by omega) (by omega) ?_
  refine V_aload_n dL_law_572 rfl ?_
  refine V_iload_n dL_law_573 rfl ?_
  refine V_iconst (v := nI 2) dL_law_574 rfl ?_
  refine V_iaddN dL_law_575 ?_
  refine V_scrN dL_law_576 (by omega) (by omega) ?_
  refine V_aload_n dL_law_577 rfl ?_
  refine V_iload_n dL_law_578 rfl ?_
  refine V_iconst (v := nI 3) dL_law_579 rfl ?_
  refine V_iaddN dL_law_580 ?_
  refine V_scrN dL_law_581 (by omega) (by omega) ?_
  refine V_aload_n dL_law_582 rfl ?_
  refine V_iload_n dL_law_583 rfl ?_
  refine V_iconst (v := nI 4) dL_law_584 rfl ?_
  refine V_iaddN dL_law_585 ?_
  refine V_scrN dL_law_586 (by omega) (by omega) ?_
  obtain ⟨d2, hd2, hc2⟩ := hw I1 J1 hP
  refine V_callV (As := [.int (zxs G (i + 1)), .int (zxs G (i + 2)), .int (zxs G (i + 3)), .int (zxs G (i + 4))]) (st := [.long x]) (a := 62) dL_law_587 kX12_likely lL_58 (by omega) rfl rfl (Nat.le_of_ble_eq_true rfl) ⟨Nat.le_of_ble_eq_true rfl, Nat.le_of_ble_eq_true rfl⟩ ⟨Nat.le_of_ble_eq_true rfl, Nat.le_of_ble_eq_true rfl⟩ rfl ⟨rfl, by decide⟩ hc2 ?_
  rintro r sh' I2 J2 ⟨rfl, rfl, hR2⟩
  refine V_lcmp dL_law_590 (V_eqI (y := nI 0) (lg_xx x) ?_)
  refine V_if_eq (tgt := 1452) dL_law_591 rfl (fun _ => ?_) (fun h => absurd h (by decide))
  refine V_iincN (ls' := [(3, .int (nI (i + 7))), (0, .ref 0), (1, .ref 2), (2, .ref 62)]) (n := 7) dL_law_1452 rfl rfl (by decide) (by decide) rfl ?_
  refine V_goto (tgt := 18) dL_law_1455 rfl ?_
  refine V_sub2 (ls' := [(0, .ref 0), (1, .ref 2), (2, .ref 62), (3, .int (nI (i + 7)))]) (List.forall_mem_cons.mpr ⟨rfl, List.forall_mem_cons.mpr ⟨rfl, List.forall_mem_cons.mpr ⟨rfl, List.forall_mem_cons.mpr ⟨rfl, fun _ h => absurd h List.not_mem_nil⟩⟩⟩⟩) ?_
  exact hk I2 J2 hR2

set_option maxRecDepth 100000 in
set_option maxHeartbeats 4000000 in
theorem lw_goFor {G : zG} {I : zI} {J : zJ} {i : Nat} (hL : zL G ≤ 3584) (hi : i + 7 ≤ zL G) (hR : REL I J) (hk : ∀ I2 J2, REL I2 J2 → lwV G 18 (i + 7) I2 J2) : lwV G 596 i I J := by
  unfold lwV at *
  refine V_aload_n dL_law_596 rfl ?_
  refine V_aload_n dL_law_597 rfl ?_
  refine V_iload_n dL_law_598 rfl ?_
  refine V_iconst (v := nI 1) dL_law_599 rfl ?_
  refine V_iaddN dL_law_600 ?_
  refine V_scrN dL_law_601 (by omega) (by omega) ?_
  refine V_aload_n dL_law_602 rfl ?_
  refine V_iload_n dL_law_603 rfl ?_
  refine V_iconst (v := nI 2) dL_law_604 rfl ?_
  refine V_iaddN dL_law_605 ?_
  refine V_scrN dL_law_606 (by omega) (by omega) ?_
  refine V_aload_n dL_law_607 rfl ?_
  refine V_iload_n dL_law_608 rfl ?_
  refine V_iconst (v := nI 3) dL_law_609 rfl ?_
  refine V_iaddN dL_law_610 ?_
  refine V_scrN dL_law_611 (by omega) (by omega) ?_
  refine V_aload_n dL_law_612 rfl ?_
  refine V_iload_n dL_law_613 rfl ?_
  refine V_iconst (v := nI 4) dL_law_614 rfl ?_
  refine V_iaddN dL_law_615 ?_
  refine V_scrN dL_law_616 (by omega) (by omega) ?_
  refine V_aload_n dL_law_617 rfl ?_
  refine V_iload_n dL_law_618 rfl ?_
  refine V_iconst (v := nI 5) dL_law_619 rfl ?_
  refine V_iaddN dL_law_620 ?_
  refine V_scrN dL_law_621 (by omega) (by omega) ?_
  obtain ⟨_, P, d1, hd1, ⟨x, rfl⟩, hc, hw⟩ := tw_goFor (G := G) (a := (zxs G (i + 1))) (b := (zxs G (i + 2))) (c := (zxs G (i + 3))) (d := (zxs G (i + 4))) (e := (zxs G (i + 5))) I J hR
  refine V_callV (As := [.int (zxs G (i + 1)), .int (zxs G (i + 2)), .int (zxs G (i + 3)), .int (zxs G (i + 4)), .int (zxs G (i + 5))]) (st := []) (a := 2) dL_law_622 kX11_goFor lL_59 (by omega) rfl rfl (Nat.le_of_ble_eq_true rfl) ⟨Nat.le_of_ble_eq_true rfl, Nat.le_of_ble_eq_true rfl⟩ ⟨Nat.le_of_ble_eq_true rfl, Nat.le_of_ble_eq_true rfl⟩ rfl ⟨rfl, by decide⟩ hc ?_
  rintro r sh' I1 J1 ⟨rfl, rfl, hP⟩
  refine V_aload_n dL_law_625 rfl ?_
  refine V_aload_n dL_law_626 rfl ?_
  refine V_iload_n dL_law_627 rfl ?_
  refine V_iconst (v := nI 1) dL_law_628 rfl ?_
  refine V_iaddN dL_law_629 ?_
  refine V_scrN dL_law_630 (by omega) (by omega) ?_
  refine V_aload_n dL_law_631 rfl ?_
  refine V_iload_n dL_law_632 rfl ?_
  refine V_iconst (v := nI 2) dL_law_633 rfl ?_
  refine V_iaddN dL_law_634 ?_
  refine V_scrN dL_law_635 (by omega) (by omega) ?_
  refine V_aload_n dL_law_636 rfl ?_
  refine V_iload_n dL_law_637 rfl ?_
  refine V_iconst (v := nI 3) dL_law_638 rfl ?_
  refine V_iaddN dL_law_639 ?_
  refine V_scrN dL_law_640 (by omega) (by omega) ?_
  refine V_aload_n dL_law_641 rfl ?_
  refine V_iload_n dL_law_642 rfl ?_
  refine V_iconst (v := nI 4) dL_law_643 rfl ?_
  refine V_iaddN dL_law_644 ?_
  refine V_scrN dL_law_645 (by omega) (by omega) ?_
  refine V_aload_n dL_law_646 rfl ?_
  refine V_iload_n dL_law_647 rfl ?_
  refine V_iconst (v := nI 5) dL_law_648 rfl ?_
  refine V_iaddN dL_law_649 ?_
  refine V_scrN dL_law_650 (by omega) (by omega) ?_
  obtain ⟨d2, hd2, hc2⟩ := hw I1 J1 hP
  refine V_callV (As := [.int (zxs G (i + 1)), .int (zxs G (i + 2)), .int (zxs G (i + 3)), .int (zxs G (i + 4)), .int (zxs G (i + 5))]) (st := [.long x]) (a := 62) dL_law_651 kX12_goFor lL_63 (by omega) rfl rfl (Nat.le_of_ble_eq_true rfl) ⟨Nat.le_of_ble_eq_true rfl, Nat.le_of_ble_eq_true rfl⟩ ⟨Nat.le_of_ble_eq_true rfl, Nat.le_of_ble_eq_true rfl⟩ rfl ⟨rfl, by decide⟩ hc2 ?_
  rintro r sh' I2 J2 ⟨rfl, rfl, hR2⟩
  refine V_lcmp dL_law_654 (V_eqI (y := nI 0) (lg_xx x) ?_)
  refine V_if_eq (tgt := 1452) dL_law_655 rfl (fun _ => ?_) (fun h => absurd h (by decide))
  refine V_iincN (ls' := [(3, .int (nI (i + 7))), (0, .ref 0), (1, .ref 2), (2, .ref 62)]) (n := 7) dL_law_1452 rfl rfl (by decide) (by decide) rfl ?_
  refine V_goto (tgt := 18) dL_law_1455 rfl ?_
  refine V_sub2 (ls' := [(0, .ref 0), (1, .ref 2), (2, .ref 62), (3, .int (nI (i + 7)))]) (List.forall_mem_cons.mpr ⟨rfl, List.forall_mem_cons.mpr ⟨rfl, List.forall_mem_cons.mpr ⟨rfl, List.forall_mem_cons.mpr ⟨rfl, fun _ h => absurd h List.not_mem_nil⟩⟩⟩⟩) ?_
  exact hk I2 J2 hR2

set_option maxRecDepth 100000 in
set_option maxHeartbeats 4000000 in
theorem lw_toThrow {G : zG} {I : zI} {J : zJ} {i : Nat} (hL : zL G ≤ 3584) (hi : i + 7 ≤ zL G) (hR : REL I J) (hk : ∀ I2 J2, REL I2 J2 → lwV G 18 (i + 7) I2 J2) : lwV G 660 i I J := by
  unfold lwV at *
  refine V_aload_n dL_law_660 rfl ?_
  refine V_aload_n dL_law_661 rfl ?_
  refine V_iload_n dL_law_662 rfl ?_
  refine V_iconst (v := nI 1) dL_law_663 rfl ?_
  refine V_iaddN dL_law_664 ?_
  refine V_scrN dL_law_665 (by omega) (by omega) ?_
  refine V_aload_n dL_law_666 rfl ?_
  refine V_iload_n dL_law_667 rfl ?_
  refine V_iconst (v := nI 2) dL_law_668 rfl ?_
  refine V_iaddN dL_law_669 ?_
  refine V_scrN dL_law_670 (by omega) (by omega) ?_
  obtain ⟨_, P, d1, hd1, ⟨x, rfl⟩, hc, hw⟩ := tw_toThrow (G := G) (a := (zxs G (i + 1))) (b := (zxs G (i + 2))) I J hR
  refine V_callV (As := [.int (zxs G (i + 1)), .int (zxs G (i + 2))]) (st := []) (a := 2) dL_law_671 kX11_toThrow lL_64 (by omega) rfl rfl (Nat.le_of_ble_eq_true rfl) ⟨Nat.le_of_ble_eq_true rfl, Nat.le_of_ble_eq_true rfl⟩ ⟨Nat.le_of_ble_eq_true rfl, Nat.le_of_ble_eq_true rfl⟩ rfl ⟨rfl, by decide⟩ hc ?_
  rintro r sh' I1 J1 ⟨rfl, rfl, hP⟩
  refine V_aload_n dL_law_674 rfl ?_
  refine V_aload_n dL_law_675 rfl ?_
  refine V_iload_n dL_law_676 rfl ?_
  refine V_iconst (v := nI 1) dL_law_677 rfl ?_
  refine V_iaddN dL_law_678 ?_
  refine V_scrN dL_law_679 (by omega) (by omega) ?_
  refine V_aload_n dL_law_680 rfl ?_
  refine V_iload_n dL_law_681 rfl ?_
  refine V_iconst (v := nI 2) dL_law_682 rfl ?_
  refine V_iaddN dL_law_683 ?_
  refine V_scrN dL_law_684 (by omega) (by omega) ?_
  obtain ⟨d2, hd2, hc2⟩ := hw I1 J1 hP
  refine V_callV (As := [.int (zxs G (i + 1)), .int (zxs G (i + 2))]) (st := [.long x]) (a := 62) dL_law_685 kX12_toThrow lL_68 (by omega) rfl rfl (Nat.le_of_ble_eq_true rfl) ⟨Nat.le_of_ble_eq_true rfl, Nat.le_of_ble_eq_true rfl⟩ ⟨Nat.le_of_ble_eq_true rfl, Nat.le_of_ble_eq_true rfl⟩ rfl ⟨rfl, by decide⟩ hc2 ?_
  rintro r sh' I2 J2 ⟨rfl, rfl, hR2⟩
  refine V_lcmp dL_law_688 (V_eqI (y := nI 0) (lg_xx x) ?_)
  refine V_if_eq (tgt := 1452) dL_law_689 rfl (fun _ => ?_) (fun h => absurd h (by decide))
  refine V_iincN (ls' := [(3, .int (nI (i + 7))), (0, .ref 0), (1, .ref 2), (2, .ref 62)]) (n := 7) dL_law_1452 rfl rfl (by decide) (by decide) rfl ?_
  refine V_goto (tgt := 18) dL_law_1455 rfl ?_
  refine V_sub2 (ls' := [(0, .ref 0), (1, .ref 2), (2, .ref 62), (3, .int (nI (i + 7)))]) (List.forall_mem_cons.mpr ⟨rfl, List.forall_mem_cons.mpr ⟨rfl, List.forall_mem_cons.mpr ⟨rfl, List.forall_mem_cons.mpr ⟨rfl, fun _ h => absurd h List.not_mem_nil⟩⟩⟩⟩) ?_
  exact hk I2 J2 hR2

set_option maxRecDepth 100000 in
set_option maxHeartbeats 4000000 in
theorem lw_by {G : zG} {I : zI} {J : zJ} {i : Nat} (hL : zL G ≤ 3584) (hi : i + 7 ≤ zL G) (hR : REL I J) (hk : ∀ I2 J2, REL I2 J2 → lwV G 18 (i + 7) I2 J2) : lwV G 694 i I J := by
  unfold lwV at *
  refine V_aload_n dL_law_694 rfl ?_
  refine V_aload_n dL_law_695 rfl ?_
  refine V_iload_n dL_law_696 rfl ?_
  refine V_iconst (v := nI 1) dL_law_697 rfl ?_
  refine V_iaddN dL_law_698 ?_
  refine V_scrN dL_law_699 (by omega) (by omega) ?_
  refine V_aload_n dL_law_700 rfl ?_
  refine V_iload_n dL_law_701 rfl ?_
  refine V_iconst (v := nI 2) dL_law_702 rfl ?_
  refine V_iaddN dL_law_703 ?_
  refine V_scrN dL_law_704 (by omega) (by omega) ?_
  refine V_aload_n dL_law_705 rfl ?_
  refine V_iload_n dL_law_706 rfl ?_
  refine V_iconst (v := nI 3) dL_law_707 rfl ?_
  refine V_iaddN dL_law_708 ?_
  refine V_scrN dL_law_709 (by omega) (by omega) ?_
  refine V_aload_n dL_law_710 rfl ?_
  refine V_iload_n dL_law_711 rfl ?_
  refine V_iconst (v := nI 4) dL_law_712 rfl ?_
  refine V_iaddN dL_law_713 ?_
  refine V_scrN dL_law_714 (by omega) (by omega) ?_
  refine V_aload_n dL_law_715 rfl ?_
  refine V_iload_n dL_law_716 rfl ?_
  refine V_iconst (v := nI 5) dL_law_717 rfl ?_
  refine V_iaddN dL_law_718 ?_
  refine V_scrN dL_law_719 (by omega) (by omega) ?_
  refine V_aload_n dL_law_720 rfl ?_
  refine V_iload_n dL_law_721 rfl ?_
  refine V_bipush (v := nI 6) dL_law_722 rfl ?_
  refine V_iaddN dL_law_724 ?_
  refine V_scrN dL_law_725 (by omega) (by omega) ?_
  obtain ⟨_, P, d1, hd1, ⟨x, rfl⟩, hc, hw⟩ := tw_by (G := G) (a := (zxs G (i + 1))) (b := (zxs G (i + 2))) (c := (zxs G (i + 3))) (d := (zxs G (i + 4))) (e := (zxs G (i + 5))) (f := (zxs G (i + 6))) I J hR
  refine V_callV (As := [.int (zxs G (i + 1)), .int (zxs G (i + 2)), .int (zxs G (i + 3)), .int (zxs G (i + 4)), .int (zxs G (i + 5)), .int (zxs G (i + 6))]) (st := []) (a := 2) dL_law_726 kX11_by lL_69 (by omega) rfl rfl (Nat.le_of_ble_eq_true rfl) ⟨Nat.le_of_ble_eq_true rfl, Nat.le_of_ble_eq_true rfl⟩ ⟨Nat.le_of_ble_eq_true rfl, Nat.le_of_ble_eq_true rfl⟩ rfl ⟨rfl, by decide⟩ hc ?_
  rintro r sh' I1 J1 ⟨rfl, rfl, hP⟩
  refine V_aload_n dL_law_729 rfl ?_
  refine V_aload_n dL_law_730 rfl ?_
  refine V_iload_n dL_law_731 rfl ?_
  refine V_iconst (v := nI 1) dL_law_732 rfl ?_
  refine V_iaddN dL_law_733 ?_
  refine V_scrN dL_law_734 (by omega) (by omega) ?_
  refine V_aload_n dL_law_735 rfl ?_
  refine V_iload_n dL_law_736 rfl ?_
  refine V_iconst (v := nI 2) dL_law_737 rfl ?_
  refine V_iaddN dL_law_738 ?_
  refine V_scrN dL_law_739 (by omega) (by omega) ?_
  refine V_aload_n dL_law_740 rfl ?_
  refine V_iload_n dL_law_741 rfl ?_
  refine V_iconst (v := nI 3) dL_law_742 rfl ?_
  refine V_iaddN dL_law_743 ?_
  refine V_scrN dL_law_744 (by omega) (by omega) ?_
  refine V_aload_n dL_law_745 rfl ?_
  refine V_iload_n dL_law_746 rfl ?_
  refine V_iconst (v := nI 4) dL_law_747 rfl ?_
  refine V_iaddN dL_law_748 ?_
  refine V_scrN dL_law_749 (by omega) (by omega) ?_
  refine V_aload_n dL_law_750 rfl ?_
  refine V_iload_n dL_law_751 rfl ?_
  refine V_iconst (v := nI 5) dL_law_752 rfl ?_
  refine V_iaddN dL_law_753 ?_
  refine V_scrN dL_law_754 (by omega) (by omega) ?_
  refine V_aload_n dL_law_755 rfl ?_
  refine V_iload_n dL_law_756 rfl ?_
  refine V_bipush (v := nI 6) dL_law_757 rfl ?_
  refine V_iaddN dL_law_759 ?_
  refine V_scrN dL_law_760 (by omega) (by omega) ?_
  obtain ⟨d2, hd2, hc2⟩ := hw I1 J1 hP
  refine V_callV (As := [.int (zxs G (i + 1)), .int (zxs G (i + 2)), .int (zxs G (i + 3)), .int (zxs G (i + 4)), .int (zxs G (i + 5)), .int (zxs G (i + 6))]) (st := [.long x]) (a := 62) dL_law_761 kX12_by lL_73 (by omega) rfl rfl (Nat.le_of_ble_eq_true rfl) ⟨Nat.le_of_ble_eq_true rfl, Nat.le_of_ble_eq_true rfl⟩ ⟨Nat.le_of_ble_eq_true rfl, Nat.le_of_ble_eq_true rfl⟩ rfl ⟨rfl, by decide⟩ hc2 ?_
  rintro r sh' I2 J2 ⟨rfl, rfl, hR2⟩
  refine V_lcmp dL_law_764 (V_eqI (y := nI 0) (lg_xx x) ?_)
  refine V_if_eq (tgt := 1452) dL_law_765 rfl (fun _ => ?_) (fun h => absurd h (by decide))
  refine V_iincN (ls' := [(3, .int (nI (i + 7))), (0, .ref 0), (1, .ref 2), (2, .ref 62)]) (n := 7) dL_law_1452 rfl rfl (by decide) (by decide) rfl ?_
  refine V_goto (tgt := 18) dL_law_1455 rfl ?_
  refine V_sub2 (ls' := [(0, .ref 0), (1, .ref 2), (2, .ref 62), (3, .int (nI (i + 7)))]) (List.forall_mem_cons.mpr ⟨rfl, List.forall_mem_cons.mpr ⟨rfl, List.forall_mem_cons.mpr ⟨rfl, List.forall_mem_cons.mpr ⟨rfl, fun _ h => absurd h List.not_mem_nil⟩⟩⟩⟩) ?_
  exact hk I2 J2 hR2

set_option maxRecDepth 100000 in
set_option maxHeartbeats 4000000 in
theorem lw_lastBall {G : zG} {I : zI} {J : zJ} {i : Nat} (hL : zL G ≤ 3584) (hi : i + 7 ≤ zL G) (hR : REL I J) (hk : ∀ I2 J2, REL I2 J2 → lwV G 18 (i + 7) I2 J2) : lwV G 770 i I J := by
  unfold lwV at *
  refine V_aload_n dL_law_770 rfl ?_
  refine V_aload_n dL_law_771 rfl ?_
  refine V_iload_n dL_law_772 rfl ?_
  refine V_iconst (v := nI 1) dL_law_773 rfl ?_
  refine V_iaddN dL_law_774 ?_
  refine V_scrN dL_law_775 (by omega) (by omega) ?_
  obtain ⟨_, P, d1, hd1, ⟨x, rfl⟩, hc, hw⟩ := tw_lastBall (G := G) (a := (zxs G (i + 1))) I J hR
  refine V_callV (As := [.int (zxs G (i + 1))]) (st := []) (a := 2) dL_law_776 kX11_lastBall lL_74 (by omega) rfl rfl (Nat.le_of_ble_eq_true rfl) ⟨Nat.le_of_ble_eq_true rfl, Nat.le_of_ble_eq_true rfl⟩ ⟨Nat.le_of_ble_eq_true rfl, Nat.le_of_ble_eq_true rfl⟩ rfl ⟨rfl, by decide⟩ hc ?_
  rintro r sh' I1 J1 ⟨rfl, rfl, hP⟩
  refine V_aload_n dL_law_779 rfl ?_
  refine V_aload_n dL_law_780 rfl ?_
  refine V_iload_n dL_law_781 rfl ?_
  refine V_iconst (v := nI 1) dL_law_782 rfl ?_
  refine V_iaddN dL_law_783 ?_
  refine V_scrN dL_law_784 (by omega) (by omega) ?_
  obtain ⟨d2, hd2, hc2⟩ := hw I1 J1 hP
  refine V_callV (As := [.int (zxs G (i + 1))]) (st := [.long x]) (a := 62) dL_law_785 kX12_lastBall lL_78 (by omega) rfl rfl (Nat.le_of_ble_eq_true rfl) ⟨Nat.le_of_ble_eq_true rfl, Nat.le_of_ble_eq_true rfl⟩ ⟨Nat.le_of_ble_eq_true rfl, Nat.le_of_ble_eq_true rfl⟩ rfl ⟨rfl, by decide⟩ hc2 ?_
  rintro r sh' I2 J2 ⟨rfl, rfl, hR2⟩
  refine V_lcmp dL_law_788 (V_eqI (y := nI 0) (lg_xx x) ?_)
  refine V_if_eq (tgt := 1452) dL_law_789 rfl (fun _ => ?_) (fun h => absurd h (by decide))
  refine V_iincN (ls' := [(3, .int (nI (i + 7))), (0, .ref 0), (1, .ref 2), (2, .ref 62)]) (n := 7) dL_law_1452 rfl rfl (by decide) (by decide) rfl ?_
  refine V_goto (tgt := 18) dL_law_1455 rfl ?_
  refine V_sub2 (ls' := [(0, .ref 0), (1, .ref 2), (2, .ref 62), (3, .int (nI (i + 7)))]) (List.forall_mem_cons.mpr ⟨rfl, List.forall_mem_cons.mpr ⟨rfl, List.forall_mem_cons.mpr ⟨rfl, List.forall_mem_cons.mpr ⟨rfl, fun _ h => absurd h List.not_mem_nil⟩⟩⟩⟩) ?_
  exact hk I2 J2 hR2

set_option maxRecDepth 100000 in
set_option maxHeartbeats 4000000 in
theorem lw_game {G : zG} {I : zI} {J : zJ} {i : Nat} (hL : zL G ≤ 3584) (hi : i + 7 ≤ zL G) (hR : REL I J) (hk : ∀ I2 J2, REL I2 J2 → lwV G 18 (i + 7) I2 J2) : lwV G 794 i I J := by
  unfold lwV at *
  refine V_aload_n dL_law_794 rfl ?_
  refine V_aload_n dL_law_795 rfl ?_
  refine V_iload_n dL_law_796 rfl ?_
  refine V_iconst (v := nI 1) dL_law_797 rfl ?_
  refine V_iaddN dL_law_798 ?_
  refine V_scrN dL_law_799 (by omega) (by omega) ?_
  obtain ⟨_, P, d1, hd1, ⟨x, rfl⟩, hc, hw⟩ := tw_game (G := G) (a := (zxs G (i + 1))) I J hR
  refine V_callV (As := [.int (zxs G (i + 1))]) (st := []) (a := 2) dL_law_800 kX11_game lL_79 (by omega) rfl rfl (Nat.le_of_ble_eq_true rfl) ⟨Nat.le_of_ble_eq_true rfl, Nat.le_of_ble_eq_true rfl⟩ ⟨Nat.le_of_ble_eq_true rfl, Nat.le_of_ble_eq_true rfl⟩ rfl ⟨rfl, by decide⟩ hc ?_
  rintro r sh' I1 J1 ⟨rfl, rfl, hP⟩
  refine V_aload_n dL_law_803 rfl ?_
  refine V_aload_n dL_law_804 rfl ?_
  refine V_iload_n dL_law_805 rfl ?_
  refine V_iconst (v := nI 1) dL_law_806 rfl ?_
  refine V_iaddN dL_law_807 ?_
  refine V_scrN dL_law_808 (by omega) (by omega) ?_
  obtain ⟨d2, hd2, hc2⟩ := hw I1 J1 hP
  refine V_callV (As := [.int (zxs G (i + 1))]) (st := [.long x]) (a := 62) dL_law_809 kX12_game lL_82 (by omega) rfl rfl (Nat.le_of_ble_eq_true rfl) ⟨Nat.le_of_ble_eq_true rfl, Nat.le_of_ble_eq_true rfl⟩ ⟨Nat.le_of_ble_eq_true rfl, Nat.le_of_ble_eq_true rfl⟩ rfl ⟨rfl, by decide⟩ hc2 ?_
  rintro r sh' I2 J2 ⟨rfl, rfl, hR2⟩
  refine V_lcmp dL_law_812 (V_eqI (y := nI 0) (lg_xx x) ?_)
  refine V_if_eq (tgt := 1452) dL_law_813 rfl (fun _ => ?_) (fun h => absurd h (by decide))
  refine V_iincN (ls' := [(3, .int (nI (i + 7))), (0, .ref 0), (1, .ref 2), (2, .ref 62)]) (n := 7) dL_law_1452 rfl rfl (by decide) (by decide) rfl ?_
  refine V_goto (tgt := 18) dL_law_1455 rfl ?_
  refine V_sub2 (ls' := [(0, .ref 0), (1, .ref 2), (2, .ref 62), (3, .int (nI (i + 7)))]) (List.forall_mem_cons.mpr ⟨rfl, List.forall_mem_cons.mpr ⟨rfl, List.forall_mem_cons.mpr ⟨rfl, List.forall_mem_cons.mpr ⟨rfl, fun _ h => absurd h List.not_mem_nil⟩⟩⟩⟩) ?_
  exact hk I2 J2 hR2

set_option maxRecDepth 100000 in
set_option maxHeartbeats 4000000 in
theorem lw_match {G : zG} {I : zI} {J : zJ} {i : Nat} (hL : zL G ≤ 3584) (hi : i + 7 ≤ zL G) (hR : REL I J) (hk : ∀ I2 J2, REL I2 J2 → lwV G 18 (i + 7) I2 J2) : lwV G 818 i I J := by
  unfold lwV at *
  refine V_aload_n dL_law_818 rfl ?_
  refine V_aload_n dL_law_819 rfl ?_
  refine V_iload_n dL_law_820 rfl ?_
  refine V_iconst (v := nI 1) dL_law_821 rfl ?_
  refine V_iaddN dL_law_822 ?_
  refine V_scrN dL_law_823 (by omega) (by omega) ?_
  refine V_aload_n dL_law_824 rfl ?_
  refine V_iload_n dL_law_825 rfl ?_
  refine V_iconst (v := nI 2) dL_law_826 rfl ?_
  refine V_iaddN dL_law_827 ?_
  refine V_scrN dL_law_828 (by omega) (by omega) ?_
  refine V_aload_n dL_law_829 rfl ?_
  refine V_iload_n dL_law_830 rfl ?_
  refine V_iconst (v := nI 3) dL_law_831 rfl ?_
  refine V_iaddN dL_law_832 ?_
  refine V_scrN dL_law_833 (by omega) (by omega) ?_
  obtain ⟨_, P, d1, hd1, ⟨x, rfl⟩, hc, hw⟩ := tw_match (G := G) (a := (zxs G (i + 1))) (b := (zxs G (i + 2))) (f := (zxs G (i + 3))) I J hR
  refine V_callV (As := [.int (zxs G (i + 1)), .int (zxs G (i + 2)), .int (zxs G (i + 3))]) (st := []) (a := 2) dL_law_834 kX11_match lL_83 (by omega) rfl rfl (Nat.le_of_ble_eq_true rfl) ⟨Nat.le_of_ble_eq_true rfl, Nat.le_of_ble_eq_true rfl⟩ ⟨Nat.le_of_ble_eq_true rfl, Nat.le_of_ble_eq_true rfl⟩ rfl ⟨rfl, by decide⟩ hc ?_
  rintro r sh' I1 J1 ⟨rfl, rfl, hP⟩
  refine V_aload_n dL_law_837 rfl ?_
  refine V_aload_n dL_law_838 rfl ?_
  refine V_iload_n dL_law_839 rfl ?_
  refine V_iconst (v := nI 1) dL_law_840 rfl ?_
  refine V_iaddN dL_law_841 ?_
  refine V_scrN dL_law_842 (by omega) (by omega) ?_
  refine V_aload_n dL_law_843 rfl ?_
  refine V_iload_n dL_law_844 rfl ?_
  refine V_iconst (v := nI 2) dL_law_845 rfl ?_
  refine V_iaddN dL_law_846 ?_
  refine V_scrN dL_law_847 (by omega) (by omega) ?_
  refine V_aload_n dL_law_848 rfl ?_
  refine V_iload_n dL_law_849 rfl ?_
  refine V_iconst (v := nI 3) dL_law_850 rfl ?_
  refine V_iaddN dL_law_851 ?_
  refine V_scrN dL_law_852 (by omega) (by omega) ?_
  obtain ⟨d2, hd2, hc2⟩ := hw I1 J1 hP
  refine V_callV (As := [.int (zxs G (i + 1)), .int (zxs G (i + 2)), .int (zxs G (i + 3))]) (st := [.int x]) (a := 62) dL_law_853 kX12_match lL_86 (by omega) rfl rfl (Nat.le_of_ble_eq_true rfl) ⟨Nat.le_of_ble_eq_true rfl, Nat.le_of_ble_eq_true rfl⟩ ⟨Nat.le_of_ble_eq_true rfl, Nat.le_of_ble_eq_true rfl⟩ rfl ⟨rfl, by decide⟩ hc2 ?_
  rintro r sh' I2 J2 ⟨rfl, rfl, hR2⟩
  refine V_icmp_eq (tgt := 1452) dL_law_856 rfl (fun _ => ?_) (fun h => absurd rfl h)
  refine V_iincN (ls' := [(3, .int (nI (i + 7))), (0, .ref 0), (1, .ref 2), (2, .ref 62)]) (n := 7) dL_law_1452 rfl rfl (by decide) (by decide) rfl ?_
  refine V_goto (tgt := 18) dL_law_1455 rfl ?_
  refine V_sub2 (ls' := [(0, .ref 0), (1, .ref 2), (2, .ref 62), (3, .int (nI (i + 7)))]) (List.forall_mem_cons.mpr ⟨rfl, List.forall_mem_cons.mpr ⟨rfl, List.forall_mem_cons.mpr ⟨rfl, List.forall_mem_cons.mpr ⟨rfl, fun _ h => absurd h List.not_mem_nil⟩⟩⟩⟩) ?_
  exact hk I2 J2 hR2

set_option maxRecDepth 100000 in
set_option maxHeartbeats 4000000 in
theorem lw_drawn {G : zG} {I : zI} {J : zJ} {i : Nat} (hL : zL G ≤ 3584) (hi : i + 7 ≤ zL G) (hR : REL I J) (hk : ∀ I2 J2, REL I2 J2 → lwV G 18 (i + 7) I2 J2) : lwV G 861 i I J := by
  unfold lwV at *
  refine V_aload_n dL_law_861 rfl ?_
  refine V_aload_n dL_law_862 rfl ?_
  refine V_iload_n dL_law_863 rfl ?_
  refine V_iconst (v := nI 1) dL_law_864 rfl ?_
  refine V_iaddN dL_law_865 ?_
  refine V_scrN dL_law_866 (by omega) (by omega) ?_
  refine V_aload_n dL_law_867 rfl ?_
  refine V_iload_n dL_law_868 rfl ?_
  refine V_iconst (v := nI 2) dL_law_869 rfl ?_
  refine V_iaddN dL_law_870 ?_
  refine V_scrN dL_law_871 (by omega) (by omega) ?_
  refine V_aload_n dL_law_872 rfl ?_
  refine V_iload_n dL_law_873 rfl ?_
  refine V_iconst (v := nI 3) dL_law_874 rfl ?_
  refine V_iaddN dL_law_875 ?_
  refine V_scrN dL_law_876 (by omega) (by omega) ?_
  refine V_aload_n dL_law_877 rfl ?_
  refine V_iload_n dL_law_878 rfl ?_
  refine V_iconst (v := nI 4) dL_law_879 rfl ?_
  refine V_iaddN dL_law_880 ?_
  refine V_scrN dL_law_881 (by omega) (by omega) ?_
  refine V_aload_n dL_law_882 rfl ?_
  refine V_iload_n dL_law_883 rfl ?_
  refine V_iconst (v := nI 5) dL_law_884 rfl ?_
  refine V_iaddN dL_law_885 ?_
  refine V_scrN dL_law_886 (by omega) (by omega) ?_
  obtain ⟨_, P, d1, hd1, ⟨x, rfl⟩, hc, hw⟩ := tw_drawn (G := G) (a := (zxs G (i + 1))) (b := (zxs G (i + 2))) (c := (zxs G (i + 3))) (d := (zxs G (i + 4))) (e := (zxs G (i + 5))) I J hR
  refine V_callV (As := [.int (zxs G (i + 1)), .int (zxs G (i + 2)), .int (zxs G (i + 3)), .int (zxs G (i + 4)), .int (zxs G (i + 5))]) (st := []) (a := 2) dL_law_887 kX11_drawn lL_87 (by omega) rfl rfl (Nat.le_of_ble_eq_true rfl) ⟨Nat.le_of_ble_eq_true rfl, Nat.le_of_ble_eq_true rfl⟩ ⟨Nat.le_of_ble_eq_true rfl, Nat.le_of_ble_eq_true rfl⟩ rfl ⟨rfl, by decide⟩ hc ?_
  rintro r sh' I1 J1 ⟨rfl, rfl, hP⟩
  refine V_aload_n dL_law_890 rfl ?_
  refine V_aload_n dL_law_891 rfl ?_
  refine V_iload_n dL_law_892 rfl ?_
  refine V_iconst (v := nI 1) dL_law_893 rfl ?_
  refine V_iaddN dL_law_894 ?_
  refine V_scrN dL_law_895 (by omega) (by omega) ?_
  refine V_aload_n dL_law_896 rfl ?_
  refine V_iload_n dL_law_897 rfl ?_
  refine V_iconst (v := nI 2) dL_law_898 rfl ?_
  refine V_iaddN dL_law_899 ?_
  refine V_scrN dL_law_900 (by omega) (by omega) ?_
  refine V_aload_n dL_law_901 rfl ?_
  refine V_iload_n dL_law_902 rfl ?_
  refine V_iconst (v := nI 3) dL_law_903 rfl ?_
  refine V_iaddN dL_law_904 ?_
  refine V_scrN dL_law_905 (by omega) (by omega) ?_
  refine V_aload_n dL_law_906 rfl ?_
  refine V_iload_n dL_law_907 rfl ?_
  refine V_iconst (v := nI 4) dL_law_908 rfl ?_
  refine V_iaddN dL_law_909 ?_
  refine V_scrN dL_law_910 (by omega) (by omega) ?_
  refine V_aload_n dL_law_911 rfl ?_
  refine V_iload_n dL_law_912 rfl ?_
  refine V_iconst (v := nI 5) dL_law_913 rfl ?_
  refine V_iaddN dL_law_914 ?_
  refine V_scrN dL_law_915 (by omega) (by omega) ?_
  obtain ⟨d2, hd2, hc2⟩ := hw I1 J1 hP
  refine V_callV (As := [.int (zxs G (i + 1)), .int (zxs G (i + 2)), .int (zxs G (i + 3)), .int (zxs G (i + 4)), .int (zxs G (i + 5))]) (st := [.int x]) (a := 62) dL_law_916 kX12_drawn lL_90 (by omega) rfl rfl (Nat.le_of_ble_eq_true rfl) ⟨Nat.le_of_ble_eq_true rfl, Nat.le_of_ble_eq_true rfl⟩ ⟨Nat.le_of_ble_eq_true rfl, Nat.le_of_ble_eq_true rfl⟩ rfl ⟨rfl, by decide⟩ hc2 ?_
  rintro r sh' I2 J2 ⟨rfl, rfl, hR2⟩
  refine V_icmp_eq (tgt := 1452) dL_law_919 rfl (fun _ => ?_) (fun h => absurd rfl h)
  refine V_iincN (ls' := [(3, .int (nI (i + 7))), (0, .ref 0), (1, .ref 2), (2, .ref 62)]) (n := 7) dL_law_1452 rfl rfl (by decide) (by decide) rfl ?_
  refine V_goto (tgt := 18) dL_law_1455 rfl ?_
  refine V_sub2 (ls' := [(0, .ref 0), (1, .ref 2), (2, .ref 62), (3, .int (nI (i + 7)))]) (List.forall_mem_cons.mpr ⟨rfl, List.forall_mem_cons.mpr ⟨rfl, List.forall_mem_cons.mpr ⟨rfl, List.forall_mem_cons.mpr ⟨rfl, fun _ h => absurd h List.not_mem_nil⟩⟩⟩⟩) ?_
  exact hk I2 J2 hR2

set_option maxRecDepth 100000 in
set_option maxHeartbeats 4000000 in
theorem lw_log {G : zG} {I : zI} {J : zJ} {i : Nat} (hL : zL G ≤ 3584) (hi : i + 7 ≤ zL G) (hR : REL I J) (hk : ∀ I2 J2, REL I2 J2 → lwV G 18 (i + 7) I2 J2) : lwV G 924 i I J := by
  unfold lwV at *
  refine V_aload_n dL_law_924 rfl ?_
  refine V_aload_n dL_law_925 rfl ?_
  refine V_iload_n dL_law_926 rfl ?_
  refine V_iconst (v := nI 1) dL_law_927 rfl ?_
  refine V_iaddN dL_law_928 ?_
  refine V_scrN dL_law_929 (by omega) (by omega) ?_
  obtain ⟨_, P, d1, hd1, ⟨x, rfl⟩, hc, hw⟩ := tw_log (G := G) (a := (zxs G (i + 1))) I J hR
  refine V_callV (As := [.int (zxs G (i + 1))]) (st := []) (a := 2) dL_law_930 kX11_log lL_91 (by omega) rfl rfl (Nat.le_of_ble_eq_true rfl) ⟨Nat.le_of_ble_eq_true rfl, Nat.le_of_ble_eq_true rfl⟩ ⟨Nat.le_of_ble_eq_true rfl, Nat.le_of_ble_eq_true rfl⟩ rfl ⟨rfl, by decide⟩ hc ?_
  rintro r sh' I1 J1 ⟨rfl, rfl, hP⟩
  refine V_aload_n dL_law_933 rfl ?_
  refine V_aload_n dL_law_934 rfl ?_
  refine V_iload_n dL_law_935 rfl ?_
  refine V_iconst (v := nI 1) dL_law_936 rfl ?_
  refine V_iaddN dL_law_937 ?_
  refine V_scrN dL_law_938 (by omega) (by omega) ?_
  obtain ⟨d2, hd2, hc2⟩ := hw I1 J1 hP
  refine V_callV (As := [.int (zxs G (i + 1))]) (st := [.int x]) (a := 62) dL_law_939 kX12_log lL_94 (by omega) rfl rfl (Nat.le_of_ble_eq_true rfl) ⟨Nat.le_of_ble_eq_true rfl, Nat.le_of_ble_eq_true rfl⟩ ⟨Nat.le_of_ble_eq_true rfl, Nat.le_of_ble_eq_true rfl⟩ rfl ⟨rfl, by decide⟩ hc2 ?_
  rintro r sh' I2 J2 ⟨rfl, rfl, hR2⟩
  refine V_icmp_eq (tgt := 1452) dL_law_942 rfl (fun _ => ?_) (fun h => absurd rfl h)
  refine V_iincN (ls' := [(3, .int (nI (i + 7))), (0, .ref 0), (1, .ref 2), (2, .ref 62)]) (n := 7) dL_law_1452 rfl rfl (by decide) (by decide) rfl ?_
  refine V_goto (tgt := 18) dL_law_1455 rfl ?_
  refine V_sub2 (ls' := [(0, .ref 0), (1, .ref 2), (2, .ref 62), (3, .int (nI (i + 7)))]) (List.forall_mem_cons.mpr ⟨rfl, List.forall_mem_cons.mpr ⟨rfl, List.forall_mem_cons.mpr ⟨rfl, List.forall_mem_cons.mpr ⟨rfl, fun _ h => absurd h List.not_mem_nil⟩⟩⟩⟩) ?_
  exact hk I2 J2 hR2

set_option maxRecDepth 100000 in
set_option maxHeartbeats 4000000 in
theorem lw_wrong {G : zG} {I : zI} {J : zJ} {i : Nat} (hL : zL G ≤ 3584) (hi : i + 7 ≤ zL G) (hR : REL I J) (hk : ∀ I2 J2, REL I2 J2 → lwV G 18 (i + 7) I2 J2) : lwV G 947 i I J := by
  unfold lwV at *
  refine V_aload_n dL_law_947 rfl ?_
  refine V_aload_n dL_law_948 rfl ?_
  refine V_iload_n dL_law_949 rfl ?_
  refine V_iconst (v := nI 1) dL_law_950 rfl ?_
  refine V_iaddN dL_law_951 ?_
  refine V_scrN dL_law_952 (by omega) (by omega) ?_
  refine V_aload_n dL_law_953 rfl ?_
  refine V_iload_n dL_law_954 rfl ?_
  refine V_iconst (v := nI 2) dL_law_955 rfl ?_
  refine V_iaddN dL_law_956 ?_
  refine V_scrN dL_law_957 (by omega) (by omega) ?_
  obtain ⟨_, P, d1, hd1, ⟨x, rfl⟩, hc, hw⟩ := tw_wrong (G := G) (i := (zxs G (i + 1))) (w := (zxs G (i + 2))) I J hR
  refine V_callV (As := [.int (zxs G (i + 1)), .int (zxs G (i + 2))]) (st := []) (a := 2) dL_law_958 kX11_wrong lL_95 (by omega) rfl rfl (Nat.le_of_ble_eq_true rfl) ⟨Nat.le_of_ble_eq_true rfl, Nat.le_of_ble_eq_true rfl⟩ ⟨Nat.le_of_ble_eq_true rfl, Nat.le_of_ble_eq_true rfl⟩ rfl ⟨rfl, by decide⟩ hc ?_
  rintro r sh' I1 J1 ⟨rfl, rfl, hP⟩
  refine V_aload_n dL_law_961 rfl ?_
  refine V_aload_n dL_law_962 rfl ?_
  refine V_iload_n dL_law_963 rfl ?_
  refine V_iconst (v := nI 1) dL_law_964 rfl ?_
  refine V_iaddN dL_law_965 ?_
  refine V_scrN dL_law_966 (by omega) (by omega) ?_
  refine V_aload_n dL_law_967 rfl ?_
  refine V_iload_n dL_law_968 rfl ?_
  refine V_iconst (v := nI 2) dL_law_969 rfl ?_
  refine V_iaddN dL_law_970 ?_
  refine V_scrN dL_law_971 (by omega) (by omega) ?_
  obtain ⟨d2, hd2, hc2⟩ := hw I1 J1 hP
  refine V_callV (As := [.int (zxs G (i + 1)), .int (zxs G (i + 2))]) (st := [.long x]) (a := 62) dL_law_972 kX12_wrong lL_98 (by omega) rfl rfl (Nat.le_of_ble_eq_true rfl) ⟨Nat.le_of_ble_eq_true rfl, Nat.le_of_ble_eq_true rfl⟩ ⟨Nat.le_of_ble_eq_true rfl, Nat.le_of_ble_eq_true rfl⟩ rfl ⟨rfl, by decide⟩ hc2 ?_
  rintro r sh' I2 J2 ⟨rfl, rfl, hR2⟩
  refine V_lcmp dL_law_975 (V_eqI (y := nI 0) (lg_xx x) ?_)
  refine V_if_eq (tgt := 1452) dL_law_976 rfl (fun _ => ?_) (fun h => absurd h (by decide))
  refine V_iincN (ls' := [(3, .int (nI (i + 7))), (0, .ref 0), (1, .ref 2), (2, .ref 62)]) (n := 7) dL_law_1452 rfl rfl (by decide) (by decide) rfl ?_
  refine V_goto (tgt := 18) dL_law_1455 rfl ?_
  refine V_sub2 (ls' := [(0, .ref 0), (1, .ref 2), (2, .ref 62), (3, .int (nI (i + 7)))]) (List.forall_mem_cons.mpr ⟨rfl, List.forall_mem_cons.mpr ⟨rfl, List.forall_mem_cons.mpr ⟨rfl, List.forall_mem_cons.mpr ⟨rfl, fun _ h => absurd h List.not_mem_nil⟩⟩⟩⟩) ?_
  exact hk I2 J2 hR2

set_option maxRecDepth 100000 in
set_option maxHeartbeats 4000000 in
theorem lw_shot {G : zG} {I : zI} {J : zJ} {i : Nat} (hL : zL G ≤ 3584) (hi : i + 7 ≤ zL G) (hR : REL I J) (hk : ∀ I2 J2, REL I2 J2 → lwV G 18 (i + 7) I2 J2) : lwV G 981 i I J := by
  unfold lwV at *
  by_cases hz : zxs G (i + 2) = 0
  · skip
    refine V_aload_n dL_law_981 rfl ?_
    refine V_aload_n dL_law_982 rfl ?_
    refine V_iload_n dL_law_983 rfl ?_
    refine V_iconst (v := nI 1) dL_law_984 rfl ?_
    refine V_iaddN dL_law_985 ?_
    refine V_scrN dL_law_986 (by omega) (by omega) ?_
    refine V_aload_n dL_law_987 rfl ?_
    refine V_iload_n dL_law_988 rfl ?_
    refine V_iconst (v := nI 2) dL_law_989 rfl ?_
    refine V_iaddN dL_law_990 ?_
    refine V_scrN dL_law_991 (by omega) (by omega) ?_
    refine V_if_eq (tgt := 999) dL_law_992 rfl (fun _ => ?_) (fun h => absurd hz h)
    refine V_iconst (v := nI 0) dL_law_999 rfl ?_
    obtain ⟨_, P, d1, hd1, ⟨x, rfl⟩, hc, hw⟩ := tw_shot0 (G := G) (n := (zxs G (i + 1))) I J hR
    refine V_callV (As := [.int (zxs G (i + 1)), .int (nI 0)]) (st := []) (a := 2) dL_law_1000 kX11_shot lL_99 (by omega) rfl rfl (Nat.le_of_ble_eq_true rfl) ⟨Nat.le_of_ble_eq_true rfl, Nat.le_of_ble_eq_true rfl⟩ ⟨Nat.le_of_ble_eq_true rfl, Nat.le_of_ble_eq_true rfl⟩ rfl ⟨rfl, by decide⟩ hc ?_
    rintro r sh' I1 J1 ⟨rfl, rfl, hP⟩
    refine V_aload_n dL_law_1003 rfl ?_
    refine V_aload_n dL_law_1004 rfl ?_
    refine V_iload_n dL_law_1005 rfl ?_
    refine V_iconst (v := nI 1) dL_law_1006 rfl ?_
    refine V_iaddN dL_law_1007 ?_
    refine V_scrN dL_law_1008 (by omega) (by omega) ?_
    refine V_aload_n dL_law_1009 rfl ?_
    refine V_iload_n dL_law_1010 rfl ?_
    refine V_iconst (v := nI 2) dL_law_1011 rfl ?_
    refine V_iaddN dL_law_1012 ?_
    refine V_scrN dL_law_1013 (by omega) (by omega) ?_
    refine V_if_eq (tgt := 1021) dL_law_1014 rfl (fun _ => ?_) (fun h => absurd hz h)
    refine V_iconst (v := nI 0) dL_law_1021 rfl ?_
    obtain ⟨d2, hd2, hc2⟩ := hw I1 J1 hP
    refine V_callV (As := [.int (zxs G (i + 1)), .int (nI 0)]) (st := [.int x]) (a := 62) dL_law_1022 kX12_shot lL_103 (by omega) rfl rfl (Nat.le_of_ble_eq_true rfl) ⟨Nat.le_of_ble_eq_true rfl, Nat.le_of_ble_eq_true rfl⟩ ⟨Nat.le_of_ble_eq_true rfl, Nat.le_of_ble_eq_true rfl⟩ rfl ⟨rfl, by decide⟩ hc2 ?_
    rintro r sh' I2 J2 ⟨rfl, rfl, hR2⟩
    refine V_icmp_eq (tgt := 1452) dL_law_1025 rfl (fun _ => ?_) (fun h => absurd rfl h)
    refine V_iincN (ls' := [(3, .int (nI (i + 7))), (0, .ref 0), (1, .ref 2), (2, .ref 62)]) (n := 7) dL_law_1452 rfl rfl (by decide) (by decide) rfl ?_
    refine V_goto (tgt := 18) dL_law_1455 rfl ?_
    refine V_sub2 (ls' := [(0, .ref 0), (1, .ref 2), (2, .ref 62), (3, .int (nI (i + 7)))]) (List.forall_mem_cons.mpr ⟨rfl, List.forall_mem_cons.mpr ⟨rfl, List.forall_mem_cons.mpr ⟨rfl, List.forall_mem_cons.mpr ⟨rfl, fun _ h => absurd h List.not_mem_nil⟩⟩⟩⟩) ?_
    exact hk I2 J2 hR2
  · skip
    refine V_aload_n dL_law_981 rfl ?_
    refine V_aload_n dL_law_982 rfl ?_
    refine V_iload_n dL_law_983 rfl ?_
    refine V_iconst (v := nI 1) dL_law_984 rfl ?_
    refine V_iaddN dL_law_985 ?_
    refine V_scrN dL_law_986 (by omega) (by omega) ?_
    refine V_aload_n dL_law_987 rfl ?_
    refine V_iload_n dL_law_988 rfl ?_
    refine V_iconst (v := nI 2) dL_law_989 rfl ?_
    refine V_iaddN dL_law_990 ?_
    refine V_scrN dL_law_991 (by omega) (by omega) ?_
    refine V_if_eq (tgt := 999) dL_law_992 rfl (fun h => absurd h hz) (fun _ => ?_)
    refine V_iconst (v := nI 1) dL_law_995 rfl ?_
    refine V_goto (tgt := 1000) dL_law_996 rfl ?_
    obtain ⟨_, P, d1, hd1, ⟨x, rfl⟩, hc, hw⟩ := tw_shot1 (G := G) (n := (zxs G (i + 1))) I J hR
    refine V_callV (As := [.int (zxs G (i + 1)), .int (nI 1)]) (st := []) (a := 2) dL_law_1000 kX11_shot lL_99 (by omega) rfl rfl (Nat.le_of_ble_eq_true rfl) ⟨Nat.le_of_ble_eq_true rfl, Nat.le_of_ble_eq_true rfl⟩ ⟨Nat.le_of_ble_eq_true rfl, Nat.le_of_ble_eq_true rfl⟩ rfl ⟨rfl, by decide⟩ hc ?_
    rintro r sh' I1 J1 ⟨rfl, rfl, hP⟩
    refine V_aload_n dL_law_1003 rfl ?_
    refine V_aload_n dL_law_1004 rfl ?_
    refine V_iload_n dL_law_1005 rfl ?_
    refine V_iconst (v := nI 1) dL_law_1006 rfl ?_
    refine V_iaddN dL_law_1007 ?_
    refine V_scrN dL_law_1008 (by omega) (by omega) ?_
    refine V_aload_n dL_law_1009 rfl ?_
    refine V_iload_n dL_law_1010 rfl ?_
    refine V_iconst (v := nI 2) dL_law_1011 rfl ?_
    refine V_iaddN dL_law_1012 ?_
    refine V_scrN dL_law_1013 (by omega) (by omega) ?_
    refine V_if_eq (tgt := 1021) dL_law_1014 rfl (fun h => absurd h hz) (fun _ => ?_)
    refine V_iconst (v := nI 1) dL_law_1017 rfl ?_
    refine V_goto (tgt := 1022) dL_law_1018 rfl ?_
    obtain ⟨d2, hd2, hc2⟩ := hw I1 J1 hP
    refine V_callV (As := [.int (zxs G (i + 1)), .int (nI 1)]) (st := [.int x]) (a := 62) dL_law_1022 kX12_shot lL_103 (by omega) rfl rfl (Nat.le_of_ble_eq_true rfl) ⟨Nat.le_of_ble_eq_true rfl, Nat.le_of_ble_eq_true rfl⟩ ⟨Nat.le_of_ble_eq_true rfl, Nat.le_of_ble_eq_true rfl⟩ rfl ⟨rfl, by decide⟩ hc2 ?_
    rintro r sh' I2 J2 ⟨rfl, rfl, hR2⟩
    refine V_icmp_eq (tgt := 1452) dL_law_1025 rfl (fun _ => ?_) (fun h => absurd rfl h)
    refine V_iincN (ls' := [(3, .int (nI (i + 7))), (0, .ref 0), (1, .ref 2), (2, .ref 62)]) (n := 7) dL_law_1452 rfl rfl (by decide) (by decide) rfl ?_
    refine V_goto (tgt := 18) dL_law_1455 rfl ?_
    refine V_sub2 (ls' := [(0, .ref 0), (1, .ref 2), (2, .ref 62), (3, .int (nI (i + 7)))]) (List.forall_mem_cons.mpr ⟨rfl, List.forall_mem_cons.mpr ⟨rfl, List.forall_mem_cons.mpr ⟨rfl, List.forall_mem_cons.mpr ⟨rfl, fun _ h => absurd h List.not_mem_nil⟩⟩⟩⟩) ?_
    exact hk I2 J2 hR2

set_option maxRecDepth 100000 in
set_option maxHeartbeats 4000000 in
theorem lw_book {G : zG} {I : zI} {J : zJ} {i : Nat} (hL : zL G ≤ 3584) (hi : i + 7 ≤ zL G) (hR : REL I J) (hk : ∀ I2 J2, REL I2 J2 → lwV G 18 (i + 7) I2 J2) : lwV G 1030 i I J := by
  unfold lwV at *
  refine V_aload_n dL_law_1030 rfl ?_
  refine V_aload_n dL_law_1031 rfl ?_
  refine V_iload_n dL_law_1032 rfl ?_
  refine V_iconst (v := nI 1) dL_law_1033 rfl ?_
  refine V_iaddN dL_law_1034 ?_
  refine V_scrN dL_law_1035 (by omega) (by omega) ?_
  obtain ⟨_, P, d1, hd1, ⟨x, rfl⟩, hc, hw⟩ := tw_book (G := G) (a := (zxs G (i + 1))) I J hR
  refine V_callV (As := [.int (zxs G (i + 1))]) (st := []) (a := 2) dL_law_1036 kX11_book lL_104 (by omega) rfl rfl (Nat.le_of_ble_eq_true rfl) ⟨Nat.le_of_ble_eq_true rfl, Nat.le_of_ble_eq_true rfl⟩ ⟨Nat.le_of_ble_eq_true rfl, Nat.le_of_ble_eq_true rfl⟩ rfl ⟨rfl, by decide⟩ hc ?_
  rintro r sh' I1 J1 ⟨rfl, rfl, hP⟩
  refine V_aload_n dL_law_1039 rfl ?_
  refine V_aload_n dL_law_1040 rfl ?_
  refine V_iload_n dL_law_1041 rfl ?_
  refine V_iconst (v := nI 1) dL_law_1042 rfl ?_
  refine V_iaddN dL_law_1043 ?_
  refine V_scrN dL_law_1044 (by omega) (by omega) ?_
  obtain ⟨d2, hd2, hc2⟩ := hw I1 J1 hP
  refine V_callV (As := [.int (zxs G (i + 1))]) (st := [.int x]) (a := 62) dL_law_1045 kX12_book lL_107 (by omega) rfl rfl (Nat.le_of_ble_eq_true rfl) ⟨Nat.le_of_ble_eq_true rfl, Nat.le_of_ble_eq_true rfl⟩ ⟨Nat.le_of_ble_eq_true rfl, Nat.le_of_ble_eq_true rfl⟩ rfl ⟨rfl, by decide⟩ hc2 ?_
  rintro r sh' I2 J2 ⟨rfl, rfl, hR2⟩
  refine V_icmp_eq (tgt := 1452) dL_law_1048 rfl (fun _ => ?_) (fun h => absurd rfl h)
  refine V_iincN (ls' := [(3, .int (nI (i + 7))), (0, .ref 0), (1, .ref 2), (2, .ref 62)]) (n := 7) dL_law_1452 rfl rfl (by decide) (by decide) rfl ?_
  refine V_goto (tgt := 18) dL_law_1455 rfl ?_
  refine V_sub2 (ls' := [(0, .ref 0), (1, .ref 2), (2, .ref 62), (3, .int (nI (i + 7)))]) (List.forall_mem_cons.mpr ⟨rfl, List.forall_mem_cons.mpr ⟨rfl, List.forall_mem_cons.mpr ⟨rfl, List.forall_mem_cons.mpr ⟨rfl, fun _ h => absurd h List.not_mem_nil⟩⟩⟩⟩) ?_
  exact hk I2 J2 hR2

set_option maxRecDepth 100000 in
set_option maxHeartbeats 4000000 in
theorem lw_fits {G : zG} {I : zI} {J : zJ} {i : Nat} (hL : zL G ≤ 3584) (hi : i + 7 ≤ zL G) (hR : REL I J) (hk : ∀ I2 J2, REL I2 J2 → lwV G 18 (i + 7) I2 J2) : lwV G 1053 i I J := by
  unfold lwV at *
  refine V_aload_n dL_law_1053 rfl ?_
  refine V_aload_n dL_law_1054 rfl ?_
  refine V_iload_n dL_law_1055 rfl ?_
  refine V_iconst (v := nI 1) dL_law_1056 rfl ?_
  refine V_iaddN dL_law_1057 ?_
  refine V_scrN dL_law_1058 (by omega) (by omega) ?_
  refine V_aload_n dL_law_1059 rfl ?_
  refine V_iload_n dL_law_1060 rfl ?_
  refine V_iconst (v := nI 2) dL_law_1061 rfl ?_
  refine V_iaddN dL_law_1062 ?_
  refine V_scrN dL_law_1063 (by omega) (by omega) ?_
  refine V_aload_n dL_law_1064 rfl ?_
  refine V_iload_n dL_law_1065 rfl ?_
  refine V_iconst (v := nI 3) dL_law_1066 rfl ?_
  refine V_iaddN dL_law_1067 ?_
  refine V_scrN dL_law_1068 (by omega) (by omega) ?_
  refine V_aload_n dL_law_1069 rfl ?_
  refine V_iload_n dL_law_1070 rfl ?_
  refine V_iconst (v := nI 4) dL_law_1071 rfl ?_
  refine V_iaddN dL_law_1072 ?_
  refine V_scrN dL_law_1073 (by omega) (by omega) ?_
  obtain ⟨_, P, d1, hd1, ⟨x, rfl⟩, hc, hw⟩ := tw_fits (G := G) (a := (zxs G (i + 1))) (b := (zxs G (i + 2))) (c := (zxs G (i + 3))) (d := (zxs G (i + 4))) I J hR
  refine V_callV (As := [.int (zxs G (i + 1)), .int (zxs G (i + 2)), .int (zxs G (i + 3)), .int (zxs G (i + 4))]) (st := []) (a := 2) dL_law_1074 kX11_fits lL_108 (by omega) rfl rfl (Nat.le_of_ble_eq_true rfl) ⟨Nat.le_of_ble_eq_true rfl, Nat.le_of_ble_eq_true rfl⟩ ⟨Nat.le_of_ble_eq_true rfl, Nat.le_of_ble_eq_true rfl⟩ rfl ⟨rfl, by decide⟩ hc ?_
  rintro r sh' I1 J1 ⟨rfl, rfl, hP⟩
  refine V_aload_n dL_law_1077 rfl ?_
  refine V_aload_n dL_law_1078 rfl ?_
  refine V_iload_n dL_law_1079 rfl ?_
  refine V_iconst (v := nI 1) dL_law_1080 rfl ?_
  refine V_iaddN dL_law_1081 ?_
  refine V_scrN dL_law_1082 (by omega) (by omega) ?_
  refine V_aload_n dL_law_1083 rfl ?_
  refine V_iload_n dL_law_1084 rfl ?_
  refine V_iconst (v := nI 2) dL_law_1085 rfl ?_
  refine V_iaddN dL_law_1086 ?_
  refine V_scrN dL_law_1087 (by omega) (by omega) ?_
  refine V_aload_n dL_law_1088 rfl ?_
  refine V_iload_n dL_law_1089 rfl ?_
  refine V_iconst (v := nI 3) dL_law_1090 rfl ?_
  refine V_iaddN dL_law_1091 ?_
  refine V_scrN dL_law_1092 (by omega) (by omega) ?_
  refine V_aload_n dL_law_1093 rfl ?_
  refine V_iload_n dL_law_1094 rfl ?_
  refine V_iconst (v := nI 4) dL_law_1095 rfl ?_
  refine V_iaddN dL_law_1096 ?_
  refine V_scrN dL_law_1097 (by omega) (by omega) ?_
  obtain ⟨d2, hd2, hc2⟩ := hw I1 J1 hP
  refine V_callV (As := [.int (zxs G (i + 1)), .int (zxs G (i + 2)), .int (zxs G (i + 3)), .int (zxs G (i + 4))]) (st := [.int x]) (a := 62) dL_law_1098 kX12_fits lL_112 (by omega) rfl rfl (Nat.le_of_ble_eq_true rfl) ⟨Nat.le_of_ble_eq_true rfl, Nat.le_of_ble_eq_true rfl⟩ ⟨Nat.le_of_ble_eq_true rfl, Nat.le_of_ble_eq_true rfl⟩ rfl ⟨rfl, by decide⟩ hc2 ?_
  rintro r sh' I2 J2 ⟨rfl, rfl, hR2⟩
  refine V_icmp_eq (tgt := 1452) dL_law_1101 rfl (fun _ => ?_) (fun h => absurd rfl h)
  refine V_iincN (ls' := [(3, .int (nI (i + 7))), (0, .ref 0), (1, .ref 2), (2, .ref 62)]) (n := 7) dL_law_1452 rfl rfl (by decide) (by decide) rfl ?_
  refine V_goto (tgt := 18) dL_law_1455 rfl ?_
  refine V_sub2 (ls' := [(0, .ref 0), (1, .ref 2), (2, .ref 62), (3, .int (nI (i + 7)))]) (List.forall_mem_cons.mpr ⟨rfl, List.forall_mem_cons.mpr ⟨rfl, List.forall_mem_cons.mpr ⟨rfl, List.forall_mem_cons.mpr ⟨rfl, fun _ h => absurd h List.not_mem_nil⟩⟩⟩⟩) ?_
  exact hk I2 J2 hR2

set_option maxRecDepth 100000 in
set_option maxHeartbeats 4000000 in
theorem lw_roll {G : zG} {I : zI} {J : zJ} {i : Nat} (hL : zL G ≤ 3584) (hi : i + 7 ≤ zL G) (hR : REL I J) (hk : ∀ I2 J2, REL I2 J2 → lwV G 18 (i + 7) I2 J2) : lwV G 1106 i I J := by
  unfold lwV at *
  refine V_aload_n dL_law_1106 rfl ?_
  refine V_aload_n dL_law_1107 rfl ?_
  refine V_iload_n dL_law_1108 rfl ?_
  refine V_iconst (v := nI 1) dL_law_1109 rfl ?_
  refine V_iaddN dL_law_1110 ?_
  refine V_scrN dL_law_1111 (by omega) (by omega) ?_
  refine V_aload_n dL_law_1112 rfl ?_
  refine V_iload_n dL_law_1113 rfl ?_
  refine V_iconst (v := nI 2) dL_law_1114 rfl ?_
  refine V_iaddN dL_law_1115 ?_
  refine V_scrN dL_law_1116 (by omega) (by omega) ?_
  refine V_aload_n dL_law_1117 rfl ?_
  refine V_iload_n dL_law_1118 rfl ?_
  refine V_iconst (v := nI 3) dL_law_1119 rfl ?_
  refine V_iaddN dL_law_1120 ?_
  refine V_scrN dL_law_1121 (by omega) (by omega) ?_
  refine V_aload_n dL_law_1122 rfl ?_
  refine V_iload_n dL_law_1123 rfl ?_
  refine V_iconst (v := nI 4) dL_law_1124 rfl ?_
  refine V_iaddN dL_law_1125 ?_
  refine V_scrN dL_law_1126 (by omega) (by omega) ?_
  refine V_aload_n dL_law_1127 rfl ?_
  refine V_iload_n dL_law_1128 rfl ?_
  refine V_iconst (v := nI 5) dL_law_1129 rfl ?_
  refine V_iaddN dL_law_1130 ?_
  refine V_scrN dL_law_1131 (by omega) (by omega) ?_
  obtain ⟨_, P, d1, hd1, ⟨x, rfl⟩, hc, hw⟩ := tw_roll (G := G) (a := (zxs G (i + 1))) (b := (zxs G (i + 2))) (c := (zxs G (i + 3))) (d := (zxs G (i + 4))) (e := (zxs G (i + 5))) I J hR
  refine V_callV (As := [.int (zxs G (i + 1)), .int (zxs G (i + 2)), .int (zxs G (i + 3)), .int (zxs G (i + 4)), .int (zxs G (i + 5))]) (st := []) (a := 2) dL_law_1132 kX11_roll lL_113 (by omega) rfl rfl (Nat.le_of_ble_eq_true rfl) ⟨Nat.le_of_ble_eq_true rfl, Nat.le_of_ble_eq_true rfl⟩ ⟨Nat.le_of_ble_eq_true rfl, Nat.le_of_ble_eq_true rfl⟩ rfl ⟨rfl, by decide⟩ hc ?_
  rintro r sh' I1 J1 ⟨rfl, rfl, hP⟩
  refine V_aload_n dL_law_1135 rfl ?_
  refine V_aload_n dL_law_1136 rfl ?_
  refine V_iload_n dL_law_1137 rfl ?_
  refine V_iconst (v := nI 1) dL_law_1138 rfl ?_
  refine V_iaddN dL_law_1139 ?_
  refine V_scrN dL_law_1140 (by omega) (by omega) ?_
  refine V_aload_n dL_law_1141 rfl ?_
  refine V_iload_n dL_law_1142 rfl ?_
  refine V_iconst (v := nI 2) dL_law_1143 rfl ?_
  refine V_iaddN dL_law_1144 ?_
  refine V_scrN dL_law_1145 (by omega) (by omega) ?_
  refine V_aload_n dL_law_1146 rfl ?_
  refine V_iload_n dL_law_1147 rfl ?_
  refine V_iconst (v := nI 3) dL_law_1148 rfl ?_
  refine V_iaddN dL_law_1149 ?_
  refine V_scrN dL_law_1150 (by omega) (by omega) ?_
  refine V_aload_n dL_law_1151 rfl ?_
  refine V_iload_n dL_law_1152 rfl ?_
  refine V_iconst (v := nI 4) dL_law_1153 rfl ?_
  refine V_iaddN dL_law_1154 ?_
  refine V_scrN dL_law_1155 (by omega) (by omega) ?_
  refine V_aload_n dL_law_1156 rfl ?_
  refine V_iload_n dL_law_1157 rfl ?_
  refine V_iconst (v := nI 5) dL_law_1158 rfl ?_
  refine V_iaddN dL_law_1159 ?_
  refine V_scrN dL_law_1160 (by omega) (by omega) ?_
  obtain ⟨d2, hd2, hc2⟩ := hw I1 J1 hP
  refine V_callV (As := [.int (zxs G (i + 1)), .int (zxs G (i + 2)), .int (zxs G (i + 3)), .int (zxs G (i + 4)), .int (zxs G (i + 5))]) (st := [.int x]) (a := 62) dL_law_1161 kX12_roll lL_116 (by omega) rfl rfl (Nat.le_of_ble_eq_true rfl) ⟨Nat.le_of_ble_eq_true rfl, Nat.le_of_ble_eq_true rfl⟩ ⟨Nat.le_of_ble_eq_true rfl, Nat.le_of_ble_eq_true rfl⟩ rfl ⟨rfl, by decide⟩ hc2 ?_
  rintro r sh' I2 J2 ⟨rfl, rfl, hR2⟩
  refine V_icmp_eq (tgt := 1452) dL_law_1164 rfl (fun _ => ?_) (fun h => absurd rfl h)
  refine V_iincN (ls' := [(3, .int (nI (i + 7))), (0, .ref 0), (1, .ref 2), (2, .ref 62)]) (n := 7) dL_law_1452 rfl rfl (by decide) (by decide) rfl ?_
  refine V_goto (tgt := 18) dL_law_1455 rfl ?_
  refine V_sub2 (ls' := [(0, .ref 0), (1, .ref 2), (2, .ref 62), (3, .int (nI (i + 7)))]) (List.forall_mem_cons.mpr ⟨rfl, List.forall_mem_cons.mpr ⟨rfl, List.forall_mem_cons.mpr ⟨rfl, List.forall_mem_cons.mpr ⟨rfl, fun _ h => absurd h List.not_mem_nil⟩⟩⟩⟩) ?_
  exact hk I2 J2 hR2

set_option maxRecDepth 100000 in
set_option maxHeartbeats 4000000 in
theorem lw_lay {G : zG} {I : zI} {J : zJ} {i : Nat} (hL : zL G ≤ 3584) (hi : i + 7 ≤ zL G) (hR : REL I J) (hk : ∀ I2 J2, REL I2 J2 → lwV G 18 (i + 7) I2 J2) : lwV G 1169 i I J := by
  unfold lwV at *
  refine V_aload_n dL_law_1169 rfl ?_
  refine V_aload_n dL_law_1170 rfl ?_
  refine V_iload_n dL_law_1171 rfl ?_
  refine V_iconst (v := nI 1) dL_law_1172 rfl ?_
  refine V_iaddN dL_law_1173 ?_
  refine V_scrN dL_law_1174 (by omega) (by omega) ?_
  refine V_aload_n dL_law_1175 rfl ?_
  refine V_iload_n dL_law_1176 rfl ?_
  refine V_iconst (v := nI 2) dL_law_1177 rfl ?_
  refine V_iaddN dL_law_1178 ?_
  refine V_scrN dL_law_1179 (by omega) (by omega) ?_
  refine V_aload_n dL_law_1180 rfl ?_
  refine V_iload_n dL_law_1181 rfl ?_
  refine V_iconst (v := nI 3) dL_law_1182 rfl ?_
  refine V_iaddN dL_law_1183 ?_
  refine V_scrN dL_law_1184 (by omega) (by omega) ?_
  obtain ⟨_, P, d1, hd1, ⟨x, rfl⟩, hc, hw⟩ := tw_lay (G := G) (a := (zxs G (i + 1))) (b := (zxs G (i + 2))) (c := (zxs G (i + 3))) I J hR
  refine V_callV (As := [.int (zxs G (i + 1)), .int (zxs G (i + 2)), .int (zxs G (i + 3))]) (st := []) (a := 2) dL_law_1185 kX11_lay lL_117 (by omega) rfl rfl (Nat.le_of_ble_eq_true rfl) ⟨Nat.le_of_ble_eq_true rfl, Nat.le_of_ble_eq_true rfl⟩ ⟨Nat.le_of_ble_eq_true rfl, Nat.le_of_ble_eq_true rfl⟩ rfl ⟨rfl, by decide⟩ hc ?_
  rintro r sh' I1 J1 ⟨rfl, rfl, hP⟩
  refine V_aload_n dL_law_1188 rfl ?_
  refine V_aload_n dL_law_1189 rfl ?_
  refine V_iload_n dL_law_1190 rfl ?_
  refine V_iconst (v := nI 1) dL_law_1191 rfl ?_
  refine V_iaddN dL_law_1192 ?_
  refine V_scrN dL_law_1193 (by omega) (by omega) ?_
  refine V_aload_n dL_law_1194 rfl ?_
  refine V_iload_n dL_law_1195 rfl ?_
  refine V_iconst (v := nI 2) dL_law_1196 rfl ?_
  refine V_iaddN dL_law_1197 ?_
  refine V_scrN dL_law_1198 (by omega) (by omega) ?_
  refine V_aload_n dL_law_1199 rfl ?_
  refine V_iload_n dL_law_1200 rfl ?_
  refine V_iconst (v := nI 3) dL_law_1201 rfl ?_
  refine V_iaddN dL_law_1202 ?_
  refine V_scrN dL_law_1203 (by omega) (by omega) ?_
  obtain ⟨d2, hd2, hc2⟩ := hw I1 J1 hP
  refine V_callV (As := [.int (zxs G (i + 1)), .int (zxs G (i + 2)), .int (zxs G (i + 3))]) (st := [.int x]) (a := 62) dL_law_1204 kX12_lay lL_120 (by omega) rfl rfl (Nat.le_of_ble_eq_true rfl) ⟨Nat.le_of_ble_eq_true rfl, Nat.le_of_ble_eq_true rfl⟩ ⟨Nat.le_of_ble_eq_true rfl, Nat.le_of_ble_eq_true rfl⟩ rfl ⟨rfl, by decide⟩ hc2 ?_
  rintro r sh' I2 J2 ⟨rfl, rfl, hR2⟩
  refine V_icmp_eq (tgt := 1452) dL_law_1207 rfl (fun _ => ?_) (fun h => absurd rfl h)
  refine V_iincN (ls' := [(3, .int (nI (i + 7))), (0, .ref 0), (1, .ref 2), (2, .ref 62)]) (n := 7) dL_law_1452 rfl rfl (by decide) (by decide) rfl ?_
  refine V_goto (tgt := 18) dL_law_1455 rfl ?_
  refine V_sub2 (ls' := [(0, .ref 0), (1, .ref 2), (2, .ref 62), (3, .int (nI (i + 7)))]) (List.forall_mem_cons.mpr ⟨rfl, List.forall_mem_cons.mpr ⟨rfl, List.forall_mem_cons.mpr ⟨rfl, List.forall_mem_cons.mpr ⟨rfl, fun _ h => absurd h List.not_mem_nil⟩⟩⟩⟩) ?_
  exact hk I2 J2 hR2

set_option maxRecDepth 100000 in
set_option maxHeartbeats 4000000 in
theorem lw_ball {G : zG} {I : zI} {J : zJ} {i : Nat} (hL : zL G ≤ 3584) (hi : i + 7 ≤ zL G) (hR : REL I J) (hk : ∀ I2 J2, REL I2 J2 → lwV G 18 (i + 7) I2 J2) : lwV G 1212 i I J := by
  unfold lwV at *
  refine V_aload_n dL_law_1212 rfl ?_
  refine V_aload_n dL_law_1213 rfl ?_
  refine V_iload_n dL_law_1214 rfl ?_
  refine V_iconst (v := nI 1) dL_law_1215 rfl ?_
  refine V_iaddN dL_law_1216 ?_
  refine V_scrN dL_law_1217 (by omega) (by omega) ?_
  refine V_aload_n dL_law_1218 rfl ?_
  refine V_iload_n dL_law_1219 rfl ?_
  refine V_iconst (v := nI 2) dL_law_1220 rfl ?_
  refine V_iaddN dL_law_1221 ?_
  refine V_scrN dL_law_1222 (by omega) (by omega) ?_
  refine V_aload_n dL_law_1223 rfl ?_
  refine V_iload_n dL_law_1224 rfl ?_
  refine V_iconst (v := nI 3) dL_law_1225 rfl ?_
  refine V_iaddN dL_law_1226 ?_
  refine V_scrN dL_law_1227 (by omega) (by omega) ?_
  obtain ⟨_, P, d1, hd1, ⟨x, rfl⟩, hc, hw⟩ := tw_ball (G := G) (a := (zxs G (i + 1))) (b := (zxs G (i + 2))) (c := (zxs G (i + 3))) I J hR
  refine V_callV (As := [.int (zxs G (i + 1)), .int (zxs G (i + 2)), .int (zxs G (i + 3))]) (st := []) (a := 2) dL_law_1228 kX11_ball lL_121 (by omega) rfl rfl (Nat.le_of_ble_eq_true rfl) ⟨Nat.le_of_ble_eq_true rfl, Nat.le_of_ble_eq_true rfl⟩ ⟨Nat.le_of_ble_eq_true rfl, Nat.le_of_ble_eq_true rfl⟩ rfl ⟨rfl, by decide⟩ hc ?_
  rintro r sh' I1 J1 ⟨rfl, rfl, hP⟩
  refine V_aload_n dL_law_1231 rfl ?_
  refine V_aload_n dL_law_1232 rfl ?_
  refine V_iload_n dL_law_1233 rfl ?_
  refine V_iconst (v := nI 1) dL_law_1234 rfl ?_
  refine V_iaddN dL_law_1235 ?_
  refine V_scrN dL_law_1236 (by omega) (by omega) ?_
  refine V_aload_n dL_law_1237 rfl ?_
  refine V_iload_n dL_law_1238 rfl ?_
  refine V_iconst (v := nI 2) dL_law_1239 rfl ?_
  refine V_iaddN dL_law_1240 ?_
  refine V_scrN dL_law_1241 (by omega) (by omega) ?_
  refine V_aload_n dL_law_1242 rfl ?_
  refine V_iload_n dL_law_1243 rfl ?_
  refine V_iconst (v := nI 3) dL_law_1244 rfl ?_
  refine V_iaddN dL_law_1245 ?_
  refine V_scrN dL_law_1246 (by omega) (by omega) ?_
  obtain ⟨d2, hd2, hc2⟩ := hw I1 J1 hP
  refine V_callV (As := [.int (zxs G (i + 1)), .int (zxs G (i + 2)), .int (zxs G (i + 3))]) (st := [.int x]) (a := 62) dL_law_1247 kX12_ball lL_124 (by omega) rfl rfl (Nat.le_of_ble_eq_true rfl) ⟨Nat.le_of_ble_eq_true rfl, Nat.le_of_ble_eq_true rfl⟩ ⟨Nat.le_of_ble_eq_true rfl, Nat.le_of_ble_eq_true rfl⟩ rfl ⟨rfl, by decide⟩ hc2 ?_
  rintro r sh' I2 J2 ⟨rfl, rfl, hR2⟩
  refine V_icmp_eq (tgt := 1452) dL_law_1250 rfl (fun _ => ?_) (fun h => absurd rfl h)
  refine V_iincN (ls' := [(3, .int (nI (i + 7))), (0, .ref 0), (1, .ref 2), (2, .ref 62)]) (n := 7) dL_law_1452 rfl rfl (by decide) (by decide) rfl ?_
  refine V_goto (tgt := 18) dL_law_1455 rfl ?_
  refine V_sub2 (ls' := [(0, .ref 0), (1, .ref 2), (2, .ref 62), (3, .int (nI (i + 7)))]) (List.forall_mem_cons.mpr ⟨rfl, List.forall_mem_cons.mpr ⟨rfl, List.forall_mem_cons.mpr ⟨rfl, List.forall_mem_cons.mpr ⟨rfl, fun _ h => absurd h List.not_mem_nil⟩⟩⟩⟩) ?_
  exact hk I2 J2 hR2

set_option maxRecDepth 100000 in
set_option maxHeartbeats 4000000 in
theorem lw_pig {G : zG} {I : zI} {J : zJ} {i : Nat} (hL : zL G ≤ 3584) (hi : i + 7 ≤ zL G) (hR : REL I J) (hk : ∀ I2 J2, REL I2 J2 → lwV G 18 (i + 7) I2 J2) : lwV G 1255 i I J := by
  unfold lwV at *
  refine V_aload_n dL_law_1255 rfl ?_
  refine V_aload_n dL_law_1256 rfl ?_
  refine V_iload_n dL_law_1257 rfl ?_
  refine V_iconst (v := nI 1) dL_law_1258 rfl ?_
  refine V_iaddN dL_law_1259 ?_
  refine V_scrN dL_law_1260 (by omega) (by omega) ?_
  refine V_aload_n dL_law_1261 rfl ?_
  refine V_iload_n dL_law_1262 rfl ?_
  refine V_iconst (v := nI 2) dL_law_1263 rfl ?_
  refine V_iaddN dL_law_1264 ?_
  refine V_scrN dL_law_1265 (by omega) (by omega) ?_
  obtain ⟨_, P, d1, hd1, ⟨x, rfl⟩, hc, hw⟩ := tw_pig (G := G) (a := (zxs G (i + 1))) (b := (zxs G (i + 2))) I J hR
  refine V_callV (As := [.int (zxs G (i + 1)), .int (zxs G (i + 2))]) (st := []) (a := 2) dL_law_1266 kX11_pig lL_125 (by omega) rfl rfl (Nat.le_of_ble_eq_true rfl) ⟨Nat.le_of_ble_eq_true rfl, Nat.le_of_ble_eq_true rfl⟩ ⟨Nat.le_of_ble_eq_true rfl, Nat.le_of_ble_eq_true rfl⟩ rfl ⟨rfl, by decide⟩ hc ?_
  rintro r sh' I1 J1 ⟨rfl, rfl, hP⟩
  refine V_aload_n dL_law_1269 rfl ?_
  refine V_aload_n dL_law_1270 rfl ?_
  refine V_iload_n dL_law_1271 rfl ?_
  refine V_iconst (v := nI 1) dL_law_1272 rfl ?_
  refine V_iaddN dL_law_1273 ?_
  refine V_scrN dL_law_1274 (by omega) (by omega) ?_
  refine V_aload_n dL_law_1275 rfl ?_
  refine V_iload_n dL_law_1276 rfl ?_
  refine V_iconst (v := nI 2) dL_law_1277 rfl ?_
  refine V_iaddN dL_law_1278 ?_
  refine V_scrN dL_law_1279 (by omega) (by omega) ?_
  obtain ⟨d2, hd2, hc2⟩ := hw I1 J1 hP
  refine V_callV (As := [.int (zxs G (i + 1)), .int (zxs G (i + 2))]) (st := [.int x]) (a := 62) dL_law_1280 kX12_pig lL_129 (by omega) rfl rfl (Nat.le_of_ble_eq_true rfl) ⟨Nat.le_of_ble_eq_true rfl, Nat.le_of_ble_eq_true rfl⟩ ⟨Nat.le_of_ble_eq_true rfl, Nat.le_of_ble_eq_true rfl⟩ rfl ⟨rfl, by decide⟩ hc2 ?_
  rintro r sh' I2 J2 ⟨rfl, rfl, hR2⟩
  refine V_icmp_eq (tgt := 1452) dL_law_1283 rfl (fun _ => ?_) (fun h => absurd rfl h)
  refine V_iincN (ls' := [(3, .int (nI (i + 7))), (0, .ref 0), (1, .ref 2), (2, .ref 62)]) (n := 7) dL_law_1452 rfl rfl (by decide) (by decide) rfl ?_
  refine V_goto (tgt := 18) dL_law_1455 rfl ?_
  refine V_sub2 (ls' := [(0, .ref 0), (1, .ref 2), (2, .ref 62), (3, .int (nI (i + 7)))]) (List.forall_mem_cons.mpr ⟨rfl, List.forall_mem_cons.mpr ⟨rfl, List.forall_mem_cons.mpr ⟨rfl, List.forall_mem_cons.mpr ⟨rfl, fun _ h => absurd h List.not_mem_nil⟩⟩⟩⟩) ?_
  exact hk I2 J2 hR2

set_option maxRecDepth 100000 in
set_option maxHeartbeats 4000000 in
theorem lw_gone {G : zG} {I : zI} {J : zJ} {i : Nat} (hL : zL G ≤ 3584) (hi : i + 7 ≤ zL G) (hR : REL I J) (hk : ∀ I2 J2, REL I2 J2 → lwV G 18 (i + 7) I2 J2) : lwV G 1288 i I J := by
  unfold lwV at *
  refine V_aload_n dL_law_1288 rfl ?_
  refine V_aload_n dL_law_1289 rfl ?_
  refine V_iload_n dL_law_1290 rfl ?_
  refine V_iconst (v := nI 1) dL_law_1291 rfl ?_
  refine V_iaddN dL_law_1292 ?_
  refine V_scrN dL_law_1293 (by omega) (by omega) ?_
  obtain ⟨_, P, d1, hd1, ⟨x, rfl⟩, hc, hw⟩ := tw_gone (G := G) (a := (zxs G (i + 1))) I J hR
  refine V_callV (As := [.int (zxs G (i + 1))]) (st := []) (a := 2) dL_law_1294 kX11_gone lL_130 (by omega) rfl rfl (Nat.le_of_ble_eq_true rfl) ⟨Nat.le_of_ble_eq_true rfl, Nat.le_of_ble_eq_true rfl⟩ ⟨Nat.le_of_ble_eq_true rfl, Nat.le_of_ble_eq_true rfl⟩ rfl ⟨rfl, by decide⟩ hc ?_
  rintro r sh' I1 J1 ⟨rfl, rfl, hP⟩
  refine V_aload_n dL_law_1297 rfl ?_
  refine V_aload_n dL_law_1298 rfl ?_
  refine V_iload_n dL_law_1299 rfl ?_
  refine V_iconst (v := nI 1) dL_law_1300 rfl ?_
  refine V_iaddN dL_law_1301 ?_
  refine V_scrN dL_law_1302 (by omega) (by omega) ?_
  obtain ⟨d2, hd2, hc2⟩ := hw I1 J1 hP
  refine V_callV (As := [.int (zxs G (i + 1))]) (st := [.int x]) (a := 62) dL_law_1303 kX12_gone lL_133 (by omega) rfl rfl (Nat.le_of_ble_eq_true rfl) ⟨Nat.le_of_ble_eq_true rfl, Nat.le_of_ble_eq_true rfl⟩ ⟨Nat.le_of_ble_eq_true rfl, Nat.le_of_ble_eq_true rfl⟩ rfl ⟨rfl, by decide⟩ hc2 ?_
  rintro r sh' I2 J2 ⟨rfl, rfl, hR2⟩
  refine V_icmp_eq (tgt := 1452) dL_law_1306 rfl (fun _ => ?_) (fun h => absurd rfl h)
  refine V_iincN (ls' := [(3, .int (nI (i + 7))), (0, .ref 0), (1, .ref 2), (2, .ref 62)]) (n := 7) dL_law_1452 rfl rfl (by decide) (by decide) rfl ?_
  refine V_goto (tgt := 18) dL_law_1455 rfl ?_
  refine V_sub2 (ls' := [(0, .ref 0), (1, .ref 2), (2, .ref 62), (3, .int (nI (i + 7)))]) (List.forall_mem_cons.mpr ⟨rfl, List.forall_mem_cons.mpr ⟨rfl, List.forall_mem_cons.mpr ⟨rfl, List.forall_mem_cons.mpr ⟨rfl, fun _ h => absurd h List.not_mem_nil⟩⟩⟩⟩) ?_
  exact hk I2 J2 hR2

set_option maxRecDepth 100000 in
set_option maxHeartbeats 4000000 in
theorem lw_measured {G : zG} {I : zI} {J : zJ} {i : Nat} (hL : zL G ≤ 3584) (hi : i + 7 ≤ zL G) (hR : REL I J) (hk : ∀ I2 J2, REL I2 J2 → lwV G 18 (i + 7) I2 J2) : lwV G 1311 i I J := by
  unfold lwV at *
  refine V_aload_n dL_law_1311 rfl ?_
  refine V_aload_n dL_law_1312 rfl ?_
  refine V_iload_n dL_law_1313 rfl ?_
  refine V_iconst (v := nI 1) dL_law_1314 rfl ?_
  refine V_iaddN dL_law_1315 ?_
  refine V_scrN dL_law_1316 (by omega) (by omega) ?_
  obtain ⟨_, P, d1, hd1, ⟨x, rfl⟩, hc, hw⟩ := tw_measured (G := G) (a := (zxs G (i + 1))) I J hR
  refine V_callV (As := [.int (zxs G (i + 1))]) (st := []) (a := 2) dL_law_1317 kX11_measured lL_134 (by omega) rfl rfl (Nat.le_of_ble_eq_true rfl) ⟨Nat.le_of_ble_eq_true rfl, Nat.le_of_ble_eq_true rfl⟩ ⟨Nat.le_of_ble_eq_true rfl, Nat.le_of_ble_eq_true rfl⟩ rfl ⟨rfl, by decide⟩ hc ?_
  rintro r sh' I1 J1 ⟨rfl, rfl, hP⟩
  refine V_aload_n dL_law_1320 rfl ?_
  refine V_aload_n dL_law_1321 rfl ?_
  refine V_iload_n dL_law_1322 rfl ?_
  refine V_iconst (v := nI 1) dL_law_1323 rfl ?_
  refine V_iaddN dL_law_1324 ?_
  refine V_scrN dL_law_1325 (by omega) (by omega) ?_
  obtain ⟨d2, hd2, hc2⟩ := hw I1 J1 hP
  refine V_callV (As := [.int (zxs G (i + 1))]) (st := [.int x]) (a := 62) dL_law_1326 kX12_measured lL_137 (by omega) rfl rfl (Nat.le_of_ble_eq_true rfl) ⟨Nat.le_of_ble_eq_true rfl, Nat.le_of_ble_eq_true rfl⟩ ⟨Nat.le_of_ble_eq_true rfl, Nat.le_of_ble_eq_true rfl⟩ rfl ⟨rfl, by decide⟩ hc2 ?_
  rintro r sh' I2 J2 ⟨rfl, rfl, hR2⟩
  refine V_icmp_eq (tgt := 1452) dL_law_1329 rfl (fun _ => ?_) (fun h => absurd rfl h)
  refine V_iincN (ls' := [(3, .int (nI (i + 7))), (0, .ref 0), (1, .ref 2), (2, .ref 62)]) (n := 7) dL_law_1452 rfl rfl (by decide) (by decide) rfl ?_
  refine V_goto (tgt := 18) dL_law_1455 rfl ?_
  refine V_sub2 (ls' := [(0, .ref 0), (1, .ref 2), (2, .ref 62), (3, .int (nI (i + 7)))]) (List.forall_mem_cons.mpr ⟨rfl, List.forall_mem_cons.mpr ⟨rfl, List.forall_mem_cons.mpr ⟨rfl, List.forall_mem_cons.mpr ⟨rfl, fun _ h => absurd h List.not_mem_nil⟩⟩⟩⟩) ?_
  exact hk I2 J2 hR2

set_option maxRecDepth 100000 in
set_option maxHeartbeats 4000000 in
theorem lw_toShoot {G : zG} {I : zI} {J : zJ} {i : Nat} (hL : zL G ≤ 3584) (hi : i + 7 ≤ zL G) (hR : REL I J) (hk : ∀ I2 J2, REL I2 J2 → lwV G 18 (i + 7) I2 J2) : lwV G 1334 i I J := by
  unfold lwV at *
  refine V_aload_n dL_law_1334 rfl ?_
  refine V_aload_n dL_law_1335 rfl ?_
  refine V_iload_n dL_law_1336 rfl ?_
  refine V_iconst (v := nI 1) dL_law_1337 rfl ?_
  refine V_iaddN dL_law_1338 ?_
  refine V_scrN dL_law_1339 (by omega) (by omega) ?_
  obtain ⟨_, P, d1, hd1, ⟨x, rfl⟩, hc, hw⟩ := tw_toShoot (G := G) (a := (zxs G (i + 1))) I J hR
  refine V_callV (As := [.int (zxs G (i + 1))]) (st := []) (a := 2) dL_law_1340 kX11_toShoot lL_138 (by omega) rfl rfl (Nat.le_of_ble_eq_true rfl) ⟨Nat.le_of_ble_eq_true rfl, Nat.le_of_ble_eq_true rfl⟩ ⟨Nat.le_of_ble_eq_true rfl, Nat.le_of_ble_eq_true rfl⟩ rfl ⟨rfl, by decide⟩ hc ?_
  rintro r sh' I1 J1 ⟨rfl, rfl, hP⟩
  refine V_aload_n dL_law_1343 rfl ?_
  refine V_aload_n dL_law_1344 rfl ?_
  refine V_iload_n dL_law_1345 rfl ?_
  refine V_iconst (v := nI 1) dL_law_1346 rfl ?_
  refine V_iaddN dL_law_1347 ?_
  refine V_scrN dL_law_1348 (by omega) (by omega) ?_
  obtain ⟨d2, hd2, hc2⟩ := hw I1 J1 hP
  refine V_callV (As := [.int (zxs G (i + 1))]) (st := [.int x]) (a := 62) dL_law_1349 kX12_toShoot lL_141 (by omega) rfl rfl (Nat.le_of_ble_eq_true rfl) ⟨Nat.le_of_ble_eq_true rfl, Nat.le_of_ble_eq_true rfl⟩ ⟨Nat.le_of_ble_eq_true rfl, Nat.le_of_ble_eq_true rfl⟩ rfl ⟨rfl, by decide⟩ hc2 ?_
  rintro r sh' I2 J2 ⟨rfl, rfl, hR2⟩
  refine V_icmp_eq (tgt := 1452) dL_law_1352 rfl (fun _ => ?_) (fun h => absurd rfl h)
  refine V_iincN (ls' := [(3, .int (nI (i + 7))), (0, .ref 0), (1, .ref 2), (2, .ref 62)]) (n := 7) dL_law_1452 rfl rfl (by decide) (by decide) rfl ?_
  refine V_goto (tgt := 18) dL_law_1455 rfl ?_
  refine V_sub2 (ls' := [(0, .ref 0), (1, .ref 2), (2, .ref 62), (3, .int (nI (i + 7)))]) (List.forall_mem_cons.mpr ⟨rfl, List.forall_mem_cons.mpr ⟨rfl, List.forall_mem_cons.mpr ⟨rfl, List.forall_mem_cons.mpr ⟨rfl, fun _ h => absurd h List.not_mem_nil⟩⟩⟩⟩) ?_
  exact hk I2 J2 hR2

set_option maxRecDepth 100000 in
set_option maxHeartbeats 4000000 in
theorem lw_seed {G : zG} {I : zI} {J : zJ} {i : Nat} (hL : zL G ≤ 3584) (hi : i + 7 ≤ zL G) (hR : REL I J) (hk : ∀ I2 J2, REL I2 J2 → lwV G 18 (i + 7) I2 J2) : lwV G 1357 i I J := by
  unfold lwV at *
  refine V_aload_n dL_law_1357 rfl ?_
  refine V_aload_n dL_law_1358 rfl ?_
  refine V_iload_n dL_law_1359 rfl ?_
  refine V_iconst (v := nI 1) dL_law_1360 rfl ?_
  refine V_iaddN dL_law_1361 ?_
  refine V_scrN dL_law_1362 (by omega) (by omega) ?_
  obtain ⟨_, P, d1, hd1, ⟨x, rfl⟩, hc, hw⟩ := tw_seed (G := G) (n := (zxs G (i + 1))) I J hR
  refine V_callV (As := [.int (zxs G (i + 1))]) (st := []) (a := 2) dL_law_1363 kX11_seed lL_142 (by omega) rfl rfl (Nat.le_of_ble_eq_true rfl) ⟨Nat.le_of_ble_eq_true rfl, Nat.le_of_ble_eq_true rfl⟩ ⟨Nat.le_of_ble_eq_true rfl, Nat.le_of_ble_eq_true rfl⟩ rfl ⟨rfl, by decide⟩ hc ?_
  rintro r sh' I1 J1 ⟨rfl, rfl, hP⟩
  refine V_aload_n dL_law_1366 rfl ?_
  refine V_aload_n dL_law_1367 rfl ?_
  refine V_iload_n dL_law_1368 rfl ?_
  refine V_iconst (v := nI 1) dL_law_1369 rfl ?_
  refine V_iaddN dL_law_1370 ?_
  refine V_scrN dL_law_1371 (by omega) (by omega) ?_
  obtain ⟨d2, hd2, hc2⟩ := hw I1 J1 hP
  refine V_callV (As := [.int (zxs G (i + 1))]) (st := [.int x]) (a := 62) dL_law_1372 kX12_seed lL_145 (by omega) rfl rfl (Nat.le_of_ble_eq_true rfl) ⟨Nat.le_of_ble_eq_true rfl, Nat.le_of_ble_eq_true rfl⟩ ⟨Nat.le_of_ble_eq_true rfl, Nat.le_of_ble_eq_true rfl⟩ rfl ⟨rfl, by decide⟩ hc2 ?_
  rintro r sh' I2 J2 ⟨rfl, rfl, hR2⟩
  refine V_icmp_eq (tgt := 1452) dL_law_1375 rfl (fun _ => ?_) (fun h => absurd rfl h)
  refine V_iincN (ls' := [(3, .int (nI (i + 7))), (0, .ref 0), (1, .ref 2), (2, .ref 62)]) (n := 7) dL_law_1452 rfl rfl (by decide) (by decide) rfl ?_
  refine V_goto (tgt := 18) dL_law_1455 rfl ?_
  refine V_sub2 (ls' := [(0, .ref 0), (1, .ref 2), (2, .ref 62), (3, .int (nI (i + 7)))]) (List.forall_mem_cons.mpr ⟨rfl, List.forall_mem_cons.mpr ⟨rfl, List.forall_mem_cons.mpr ⟨rfl, List.forall_mem_cons.mpr ⟨rfl, fun _ h => absurd h List.not_mem_nil⟩⟩⟩⟩) ?_
  exact hk I2 J2 hR2

set_option maxRecDepth 100000 in
set_option maxHeartbeats 4000000 in
theorem lw_keep {G : zG} {I : zI} {J : zJ} {i : Nat} (hL : zL G ≤ 3584) (hi : i + 7 ≤ zL G) (hR : REL I J) (hk : ∀ I2 J2, REL I2 J2 → lwV G 18 (i + 7) I2 J2) : lwV G 1380 i I J := by
  unfold lwV at *
  refine V_aload_n dL_law_1380 rfl ?_
  obtain ⟨_, P, d1, hd1, ⟨x, rfl⟩, hc, hw⟩ := tw_keep (G := G)  I J hR
  refine V_callV (As := []) (st := []) (a := 2) dL_law_1381 kX11_keep lL_146 (by omega) rfl rfl (Nat.le_of_ble_eq_true rfl) ⟨Nat.le_of_ble_eq_true rfl, Nat.le_of_ble_eq_true rfl⟩ ⟨Nat.le_of_ble_eq_true rfl, Nat.le_of_ble_eq_true rfl⟩ rfl ⟨rfl, by decide⟩ hc ?_
  rintro r sh' I1 J1 ⟨rfl, rfl, hP⟩
  refine V_aload_n dL_law_1384 rfl ?_
  obtain ⟨d2, hd2, hc2⟩ := hw I1 J1 hP
  refine V_callV (As := []) (st := [.int x]) (a := 62) dL_law_1385 kX12_keep lL_150 (by omega) rfl rfl (Nat.le_of_ble_eq_true rfl) ⟨Nat.le_of_ble_eq_true rfl, Nat.le_of_ble_eq_true rfl⟩ ⟨Nat.le_of_ble_eq_true rfl, Nat.le_of_ble_eq_true rfl⟩ rfl ⟨rfl, by decide⟩ hc2 ?_
  rintro r sh' I2 J2 ⟨rfl, rfl, hR2⟩
  refine V_icmp_eq (tgt := 1452) dL_law_1388 rfl (fun _ => ?_) (fun h => absurd rfl h)
  refine V_iincN (ls' := [(3, .int (nI (i + 7))), (0, .ref 0), (1, .ref 2), (2, .ref 62)]) (n := 7) dL_law_1452 rfl rfl (by decide) (by decide) rfl ?_
  refine V_goto (tgt := 18) dL_law_1455 rfl ?_
  refine V_sub2 (ls' := [(0, .ref 0), (1, .ref 2), (2, .ref 62), (3, .int (nI (i + 7)))]) (List.forall_mem_cons.mpr ⟨rfl, List.forall_mem_cons.mpr ⟨rfl, List.forall_mem_cons.mpr ⟨rfl, List.forall_mem_cons.mpr ⟨rfl, fun _ h => absurd h List.not_mem_nil⟩⟩⟩⟩) ?_
  exact hk I2 J2 hR2

set_option maxRecDepth 100000 in
set_option maxHeartbeats 4000000 in
theorem lw_undo {G : zG} {I : zI} {J : zJ} {i : Nat} (hL : zL G ≤ 3584) (hi : i + 7 ≤ zL G) (hR : REL I J) (hk : ∀ I2 J2, REL I2 J2 → lwV G 18 (i + 7) I2 J2) : lwV G 1393 i I J := by
  unfold lwV at *
  refine V_aload_n dL_law_1393 rfl ?_
  obtain ⟨_, P, d1, hd1, ⟨x, rfl⟩, hc, hw⟩ := tw_undo (G := G)  I J hR
  refine V_callV (As := []) (st := []) (a := 2) dL_law_1394 kX11_undo lL_151 (by omega) rfl rfl (Nat.le_of_ble_eq_true rfl) ⟨Nat.le_of_ble_eq_true rfl, Nat.le_of_ble_eq_true rfl⟩ ⟨Nat.le_of_ble_eq_true rfl, Nat.le_of_ble_eq_true rfl⟩ rfl ⟨rfl, by decide⟩ hc ?_
  rintro r sh' I1 J1 ⟨rfl, rfl, hP⟩
  refine V_aload_n dL_law_1397 rfl ?_
  obtain ⟨d2, hd2, hc2⟩ := hw I1 J1 hP
  refine V_callV (As := []) (st := [.int x]) (a := 62) dL_law_1398 kX12_undo lL_155 (by omega) rfl rfl (Nat.le_of_ble_eq_true rfl) ⟨Nat.le_of_ble_eq_true rfl, Nat.le_of_ble_eq_true rfl⟩ ⟨Nat.le_of_ble_eq_true rfl, Nat.le_of_ble_eq_true rfl⟩ rfl ⟨rfl, by decide⟩ hc2 ?_
  rintro r sh' I2 J2 ⟨rfl, rfl, hR2⟩
  refine V_icmp_eq (tgt := 1452) dL_law_1401 rfl (fun _ => ?_) (fun h => absurd rfl h)
  refine V_iincN (ls' := [(3, .int (nI (i + 7))), (0, .ref 0), (1, .ref 2), (2, .ref 62)]) (n := 7) dL_law_1452 rfl rfl (by decide) (by decide) rfl ?_
  refine V_goto (tgt := 18) dL_law_1455 rfl ?_
  refine V_sub2 (ls' := [(0, .ref 0), (1, .ref 2), (2, .ref 62), (3, .int (nI (i + 7)))]) (List.forall_mem_cons.mpr ⟨rfl, List.forall_mem_cons.mpr ⟨rfl, List.forall_mem_cons.mpr ⟨rfl, List.forall_mem_cons.mpr ⟨rfl, fun _ h => absurd h List.not_mem_nil⟩⟩⟩⟩) ?_
  exact hk I2 J2 hR2

set_option maxRecDepth 100000 in
set_option maxHeartbeats 4000000 in
theorem lw_check {G : zG} {I : zI} {J : zJ} {i : Nat} (hL : zL G ≤ 3584) (hi : i + 7 ≤ zL G) (hR : REL I J) (hk : ∀ I2 J2, REL I2 J2 → lwV G 18 (i + 7) I2 J2) : lwV G 1406 i I J := by
  unfold lwV at *
  refine V_aload_n dL_law_1406 rfl ?_
  refine V_aload_n dL_law_1407 rfl ?_
  refine V_iload_n dL_law_1408 rfl ?_
  refine V_iconst (v := nI 1) dL_law_1409 rfl ?_
  refine V_iaddN dL_law_1410 ?_
  refine V_scrN dL_law_1411 (by omega) (by omega) ?_
  obtain ⟨_, P, d1, hd1, ⟨x, rfl⟩, hc, hw⟩ := tw_check (G := G) (n := (zxs G (i + 1))) I J hR
  refine V_callV (As := [.int (zxs G (i + 1))]) (st := []) (a := 2) dL_law_1412 kX11_check lL_156 (by omega) rfl rfl (Nat.le_of_ble_eq_true rfl) ⟨Nat.le_of_ble_eq_true rfl, Nat.le_of_ble_eq_true rfl⟩ ⟨Nat.le_of_ble_eq_true rfl, Nat.le_of_ble_eq_true rfl⟩ rfl ⟨rfl, by decide⟩ hc ?_
  rintro r sh' I1 J1 ⟨rfl, rfl, hP⟩
  refine V_aload_n dL_law_1415 rfl ?_
  refine V_aload_n dL_law_1416 rfl ?_
  refine V_iload_n dL_law_1417 rfl ?_
  refine V_iconst (v := nI 1) dL_law_1418 rfl ?_
  refine V_iaddN dL_law_1419 ?_
  refine V_scrN dL_law_1420 (by omega) (by omega) ?_
  obtain ⟨d2, hd2, hc2⟩ := hw I1 J1 hP
  refine V_callV (As := [.int (zxs G (i + 1))]) (st := [.int x]) (a := 62) dL_law_1421 kX12_check lL_159 (by omega) rfl rfl (Nat.le_of_ble_eq_true rfl) ⟨Nat.le_of_ble_eq_true rfl, Nat.le_of_ble_eq_true rfl⟩ ⟨Nat.le_of_ble_eq_true rfl, Nat.le_of_ble_eq_true rfl⟩ rfl ⟨rfl, by decide⟩ hc2 ?_
  rintro r sh' I2 J2 ⟨rfl, rfl, hR2⟩
  refine V_icmp_eq (tgt := 1452) dL_law_1424 rfl (fun _ => ?_) (fun h => absurd rfl h)
  refine V_iincN (ls' := [(3, .int (nI (i + 7))), (0, .ref 0), (1, .ref 2), (2, .ref 62)]) (n := 7) dL_law_1452 rfl rfl (by decide) (by decide) rfl ?_
  refine V_goto (tgt := 18) dL_law_1455 rfl ?_
  refine V_sub2 (ls' := [(0, .ref 0), (1, .ref 2), (2, .ref 62), (3, .int (nI (i + 7)))]) (List.forall_mem_cons.mpr ⟨rfl, List.forall_mem_cons.mpr ⟨rfl, List.forall_mem_cons.mpr ⟨rfl, List.forall_mem_cons.mpr ⟨rfl, fun _ h => absurd h List.not_mem_nil⟩⟩⟩⟩) ?_
  exact hk I2 J2 hR2

set_option maxRecDepth 100000 in
set_option maxHeartbeats 4000000 in
theorem lw_count {G : zG} {I : zI} {J : zJ} {i : Nat} (hL : zL G ≤ 3584) (hi : i + 7 ≤ zL G) (hR : REL I J) (hk : ∀ I2 J2, REL I2 J2 → lwV G 18 (i + 7) I2 J2) : lwV G 1429 i I J := by
  unfold lwV at *
  refine V_aload_n dL_law_1429 rfl ?_
  refine V_aload_n dL_law_1430 rfl ?_
  refine V_iload_n dL_law_1431 rfl ?_
  refine V_iconst (v := nI 1) dL_law_1432 rfl ?_
  refine V_iaddN dL_law_1433 ?_
  refine V_scrN dL_law_1434 (by omega) (by omega) ?_
  obtain ⟨_, P, d1, hd1, ⟨x, rfl⟩, hc, hw⟩ := tw_count (G := G) (a := (zxs G (i + 1))) I J hR
  refine V_callV (As := [.int (zxs G (i + 1))]) (st := []) (a := 2) dL_law_1435 kX11_count lL_160 (by omega) rfl rfl (Nat.le_of_ble_eq_true rfl) ⟨Nat.le_of_ble_eq_true rfl, Nat.le_of_ble_eq_true rfl⟩ ⟨Nat.le_of_ble_eq_true rfl, Nat.le_of_ble_eq_true rfl⟩ rfl ⟨rfl, by decide⟩ hc ?_
  rintro r sh' I1 J1 ⟨rfl, rfl, hP⟩
  refine V_aload_n dL_law_1438 rfl ?_
  refine V_aload_n dL_law_1439 rfl ?_
  refine V_iload_n dL_law_1440 rfl ?_
  refine V_iconst (v := nI 1) dL_law_1441 rfl ?_
  refine V_iaddN dL_law_1442 ?_
  refine V_scrN dL_law_1443 (by omega) (by omega) ?_
  obtain ⟨d2, hd2, hc2⟩ := hw I1 J1 hP
  refine V_callV (As := [.int (zxs G (i + 1))]) (st := [.int x]) (a := 62) dL_law_1444 kX12_count lL_163 (by omega) rfl rfl (Nat.le_of_ble_eq_true rfl) ⟨Nat.le_of_ble_eq_true rfl, Nat.le_of_ble_eq_true rfl⟩ ⟨Nat.le_of_ble_eq_true rfl, Nat.le_of_ble_eq_true rfl⟩ rfl ⟨rfl, by decide⟩ hc2 ?_
  rintro r sh' I2 J2 ⟨rfl, rfl, hR2⟩
  refine V_icmp_eq (tgt := 1452) dL_law_1447 rfl (fun _ => ?_) (fun h => absurd rfl h)
  refine V_iincN (ls' := [(3, .int (nI (i + 7))), (0, .ref 0), (1, .ref 2), (2, .ref 62)]) (n := 7) dL_law_1452 rfl rfl (by decide) (by decide) rfl ?_
  refine V_goto (tgt := 18) dL_law_1455 rfl ?_
  refine V_sub2 (ls' := [(0, .ref 0), (1, .ref 2), (2, .ref 62), (3, .int (nI (i + 7)))]) (List.forall_mem_cons.mpr ⟨rfl, List.forall_mem_cons.mpr ⟨rfl, List.forall_mem_cons.mpr ⟨rfl, List.forall_mem_cons.mpr ⟨rfl, fun _ h => absurd h List.not_mem_nil⟩⟩⟩⟩) ?_
  exact hk I2 J2 hR2

set_option maxRecDepth 100000 in
set_option maxHeartbeats 4000000 in
theorem lw_none {G : zG} {I : zI} {J : zJ} {i : Nat} (hL : zL G ≤ 3584) (hi : i + 7 ≤ zL G) (hR : REL I J) (hk : ∀ I2 J2, REL I2 J2 → lwV G 18 (i + 7) I2 J2) : lwV G 1452 i I J := by
  unfold lwV at *
  refine V_iincN (ls' := [(3, .int (nI (i + 7))), (0, .ref 0), (1, .ref 2), (2, .ref 62)]) (n := 7) dL_law_1452 rfl rfl (by decide) (by decide) rfl ?_
  refine V_goto (tgt := 18) dL_law_1455 rfl ?_
  refine V_sub2 (ls' := [(0, .ref 0), (1, .ref 2), (2, .ref 62), (3, .int (nI (i + 7)))]) (List.forall_mem_cons.mpr ⟨rfl, List.forall_mem_cons.mpr ⟨rfl, List.forall_mem_cons.mpr ⟨rfl, List.forall_mem_cons.mpr ⟨rfl, fun _ h => absurd h List.not_mem_nil⟩⟩⟩⟩) ?_
  exact hk I J hR

set_option maxRecDepth 100000 in
set_option maxHeartbeats 4000000 in
theorem lw_head {G : zG} {I : zI} {J : zJ} {i : Nat} (hL : zL G ≤ 3584) (hi9 : i ≤ 3590) (hR : REL I J) (hk : i + 7 ≤ zL G → ∀ I2 J2, REL I2 J2 → lwV G 18 (i + 7) I2 J2) : lwV G 18 i I J := by
  unfold lwV
  by_cases hx : zL G < i + 7
  · skip
    refine V_iload_n dL_law_18 rfl ?_
    refine V_aload_n dL_law_19 rfl ?_
    refine V_slen (v := nI (zL G)) dL_law_20 rfl ?_
    refine V_bipush (v := nI 7) dL_law_21 rfl ?_
    refine V_isub dL_law_23 ?_
    refine V_icmp_gt (tgt := 1458) dL_law_24 rfl (fun _ => ?_) (fun h => absurd ((hd_gt (by omega) (by omega)).mpr hx) h)
    refine V_iconst (v := nI 1) dL_law_1458 rfl ?_
    exact V_iret ⟨Or.inr ⟨rfl, Or.inr rfl⟩, dL_law_1459⟩ ⟨Nat.le_of_ble_eq_true rfl, Nat.le_of_ble_eq_true rfl⟩ rfl
  · have hi : i + 7 ≤ zL G := by omega
    obtain ⟨v, hv64, hv⟩ := and63 (zxs G i)
    refine V_iload_n dL_law_18 rfl ?_
    refine V_aload_n dL_law_19 rfl ?_
    refine V_slen (v := nI (zL G)) dL_law_20 rfl ?_
    refine V_bipush (v := nI 7) dL_law_21 rfl ?_
    refine V_isub dL_law_23 ?_
    refine V_icmp_gt (tgt := 1458) dL_law_24 rfl (fun h => absurd ((hd_gt (by omega) (by omega)).mp h) (by omega)) (fun _ => ?_)
    refine V_aload_n dL_law_27 rfl ?_
    refine V_iload_n dL_law_28 rfl ?_
    refine V_scrN dL_law_29 (by omega) (by omega) ?_
    refine V_bipush (v := nI 63) dL_law_30 rfl ?_
    refine V_iand dL_law_32 (V_eqI (y := nI v) hv ?_)
    rcases (show v = 0 ∨ v = 1 ∨ v = 2 ∨ v = 3 ∨ v = 4 ∨ v = 5 ∨ v = 6 ∨ v = 7 ∨ v = 8 ∨ v = 9 ∨ v = 10 ∨ v = 11 ∨ v = 12 ∨ v = 13 ∨ v = 14 ∨ v = 15 ∨ v = 16 ∨ v = 17 ∨ v = 18 ∨ v = 19 ∨ v = 20 ∨ v = 21 ∨ v = 22 ∨ v = 23 ∨ v = 24 ∨ v = 25 ∨ v = 26 ∨ v = 27 ∨ v = 28 ∨ v = 29 ∨ v = 30 ∨ v = 31 ∨ v = 32 ∨ v = 33 ∨ 34 ≤ v by omega) with rfl | rfl | rfl | rfl | rfl | rfl | rfl | rfl | rfl | rfl | rfl | rfl | rfl | rfl | rfl | rfl | rfl | rfl | rfl | rfl | rfl | rfl | rfl | rfl | rfl | rfl | rfl | rfl | rfl | rfl | rfl | rfl | rfl | rfl | hv34
    · refine V_tsIn (off := 151) (tgt := 184) dL_law_33 (by decide) (by decide) rfl rfl ?_
      exact lw_far hL hi hR (hk hi)
    · refine V_tsIn (off := 174) (tgt := 207) dL_law_33 (by decide) (by decide) rfl rfl ?_
      exact lw_feed hL hi hR (hk hi)
    · refine V_tsIn (off := 237) (tgt := 270) dL_law_33 (by decide) (by decide) rfl rfl ?_
      exact lw_law hL hi hR (hk hi)
    · refine V_tsIn (off := 260) (tgt := 293) dL_law_33 (by decide) (by decide) rfl rfl ?_
      exact lw_rule hL hi hR (hk hi)
    · refine V_tsIn (off := 293) (tgt := 326) dL_law_33 (by decide) (by decide) rfl rfl ?_
      exact lw_ground hL hi hR (hk hi)
    · refine V_tsIn (off := 316) (tgt := 349) dL_law_33 (by decide) (by decide) rfl rfl ?_
      exact lw_turn hL hi hR (hk hi)
    · refine V_tsIn (off := 359) (tgt := 392) dL_law_33 (by decide) (by decide) rfl rfl ?_
      exact lw_points hL hi hR (hk hi)
    · refine V_tsIn (off := 392) (tgt := 425) dL_law_33 (by decide) (by decide) rfl rfl ?_
      exact lw_chance hL hi hR (hk hi)
    · refine V_tsIn (off := 455) (tgt := 488) dL_law_33 (by decide) (by decide) rfl rfl ?_
      exact lw_best hL hi hR (hk hi)
    · refine V_tsIn (off := 509) (tgt := 542) dL_law_33 (by decide) (by decide) rfl rfl ?_
      exact lw_likely hL hi hR (hk hi)
    · refine V_tsIn (off := 563) (tgt := 596) dL_law_33 (by decide) (by decide) rfl rfl ?_
      exact lw_goFor hL hi hR (hk hi)
    · refine V_tsIn (off := 627) (tgt := 660) dL_law_33 (by decide) (by decide) rfl rfl ?_
      exact lw_toThrow hL hi hR (hk hi)
    · refine V_tsIn (off := 661) (tgt := 694) dL_law_33 (by decide) (by decide) rfl rfl ?_
      exact lw_by hL hi hR (hk hi)
    · refine V_tsIn (off := 737) (tgt := 770) dL_law_33 (by decide) (by decide) rfl rfl ?_
      exact lw_lastBall hL hi hR (hk hi)
    · refine V_tsIn (off := 761) (tgt := 794) dL_law_33 (by decide) (by decide) rfl rfl ?_
      exact lw_game hL hi hR (hk hi)
    · refine V_tsIn (off := 785) (tgt := 818) dL_law_33 (by decide) (by decide) rfl rfl ?_
      exact lw_match hL hi hR (hk hi)
    · refine V_tsIn (off := 828) (tgt := 861) dL_law_33 (by decide) (by decide) rfl rfl ?_
      exact lw_drawn hL hi hR (hk hi)
    · refine V_tsIn (off := 891) (tgt := 924) dL_law_33 (by decide) (by decide) rfl rfl ?_
      exact lw_log hL hi hR (hk hi)
    · refine V_tsIn (off := 914) (tgt := 947) dL_law_33 (by decide) (by decide) rfl rfl ?_
      exact lw_wrong hL hi hR (hk hi)
    · refine V_tsIn (off := 948) (tgt := 981) dL_law_33 (by decide) (by decide) rfl rfl ?_
      exact lw_shot hL hi hR (hk hi)
    · refine V_tsIn (off := 997) (tgt := 1030) dL_law_33 (by decide) (by decide) rfl rfl ?_
      exact lw_book hL hi hR (hk hi)
    · refine V_tsIn (off := 1020) (tgt := 1053) dL_law_33 (by decide) (by decide) rfl rfl ?_
      exact lw_fits hL hi hR (hk hi)
    · refine V_tsIn (off := 1073) (tgt := 1106) dL_law_33 (by decide) (by decide) rfl rfl ?_
      exact lw_roll hL hi hR (hk hi)
    · refine V_tsIn (off := 1136) (tgt := 1169) dL_law_33 (by decide) (by decide) rfl rfl ?_
      exact lw_lay hL hi hR (hk hi)
    · refine V_tsIn (off := 1179) (tgt := 1212) dL_law_33 (by decide) (by decide) rfl rfl ?_
      exact lw_ball hL hi hR (hk hi)
    · refine V_tsIn (off := 1222) (tgt := 1255) dL_law_33 (by decide) (by decide) rfl rfl ?_
      exact lw_pig hL hi hR (hk hi)
    · refine V_tsIn (off := 1255) (tgt := 1288) dL_law_33 (by decide) (by decide) rfl rfl ?_
      exact lw_gone hL hi hR (hk hi)
    · refine V_tsIn (off := 1278) (tgt := 1311) dL_law_33 (by decide) (by decide) rfl rfl ?_
      exact lw_measured hL hi hR (hk hi)
    · refine V_tsIn (off := 1301) (tgt := 1334) dL_law_33 (by decide) (by decide) rfl rfl ?_
      exact lw_toShoot hL hi hR (hk hi)
    · refine V_tsIn (off := 1324) (tgt := 1357) dL_law_33 (by decide) (by decide) rfl rfl ?_
      exact lw_seed hL hi hR (hk hi)
    · refine V_tsIn (off := 1347) (tgt := 1380) dL_law_33 (by decide) (by decide) rfl rfl ?_
      exact lw_keep hL hi hR (hk hi)
    · refine V_tsIn (off := 1360) (tgt := 1393) dL_law_33 (by decide) (by decide) rfl rfl ?_
      exact lw_undo hL hi hR (hk hi)
    · refine V_tsIn (off := 1373) (tgt := 1406) dL_law_33 (by decide) (by decide) rfl rfl ?_
      exact lw_check hL hi hR (hk hi)
    · refine V_tsIn (off := 1396) (tgt := 1429) dL_law_33 (by decide) (by decide) rfl rfl ?_
      exact lw_count hL hi hR (hk hi)
    · refine V_tsOut (tgt := 1452) dL_law_33 (Or.inr (by rw [nI_toInt (by omega)]; omega)) rfl ?_
      exact lw_none hL hi hR (hk hi)

theorem lw_loop {G : zG} (hL : zL G ≤ 3584) : ∀ n i (I : zI) (J : zJ), zL G ≤ i + 7 * n → i ≤ 3590 → REL I J → lwV G 18 i I J := by
  intro n
  induction n with
  | zero => intro i I J hn h9 hR; exact lw_head hL h9 hR (fun hi => by omega)
  | succ n ih => intro i I J hn h9 hR; exact lw_head hL h9 hR (fun hi I2 J2 hR2 => ih (i + 7) I2 J2 (by omega) (by omega) hR2)
