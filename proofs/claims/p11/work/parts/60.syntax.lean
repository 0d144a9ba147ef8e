theorem dX10_isSentence_0 : decode cX10_isSentence 0 = .ok (.aload_n 0, 1) := by decide +kernel
theorem dX10_isSentence_1 : decode cX10_isSentence 1 = .ok (.iconst 1, 1) := by decide +kernel
theorem dX10_isSentence_2 : decode cX10_isSentence 2 = .ok (.putfield 83, 3) := by decide +kernel
theorem dX10_isSentence_5 : decode cX10_isSentence 5 = .ok (.aload_n 0, 1) := by decide +kernel
theorem dX10_isSentence_6 : decode cX10_isSentence 6 = .ok (.iconst 0, 1) := by decide +kernel
theorem dX10_isSentence_7 : decode cX10_isSentence 7 = .ok (.putfield 86, 3) := by decide +kernel
theorem dX10_isSentence_10 : decode cX10_isSentence 10 = .ok (.aload_n 0, 1) := by decide +kernel
theorem dX10_isSentence_11 : decode cX10_isSentence 11 = .ok (.iconst 0, 1) := by decide +kernel
theorem dX10_isSentence_12 : decode cX10_isSentence 12 = .ok (.putfield 89, 3) := by decide +kernel
theorem dX10_isSentence_15 : decode cX10_isSentence 15 = .ok (.aload_n 0, 1) := by decide +kernel
theorem dX10_isSentence_16 : decode cX10_isSentence 16 = .ok (.iconst 0, 1) := by decide +kernel
theorem dX10_isSentence_17 : decode cX10_isSentence 17 = .ok (.putfield 92, 3) := by decide +kernel
theorem dX10_isSentence_20 : decode cX10_isSentence 20 = .ok (.aload_n 0, 1) := by decide +kernel
theorem dX10_isSentence_21 : decode cX10_isSentence 21 = .ok (.aload_n 0, 1) := by decide +kernel
theorem dX10_isSentence_22 : decode cX10_isSentence 22 = .ok (.getfield 28, 3) := by decide +kernel
theorem dX10_isSentence_25 : decode cX10_isSentence 25 = .ok (.ifCond .le 23, 3) := by decide +kernel
theorem dX10_isSentence_28 : decode cX10_isSentence 28 = .ok (.aload_n 0, 1) := by decide +kernel
theorem dX10_isSentence_29 : decode cX10_isSentence 29 = .ok (.getfield 9, 3) := by decide +kernel
theorem dX10_isSentence_32 : decode cX10_isSentence 32 = .ok (.iconst 0, 1) := by decide +kernel
theorem dX10_isSentence_33 : decode cX10_isSentence 33 = .ok (.iaload, 1) := by decide +kernel
theorem dX10_isSentence_34 : decode cX10_isSentence 34 = .ok (.bipush 110, 2) := by decide +kernel
theorem dX10_isSentence_36 : decode cX10_isSentence 36 = .ok (.if_icmp .ne 12, 3) := by decide +kernel
theorem dX10_isSentence_39 : decode cX10_isSentence 39 = .ok (.aload_n 0, 1) := by decide +kernel
theorem dX10_isSentence_40 : decode cX10_isSentence 40 = .ok (.getfield 15, 3) := by decide +kernel
theorem dX10_isSentence_43 : decode cX10_isSentence 43 = .ok (.iconst 0, 1) := by decide +kernel
theorem dX10_isSentence_44 : decode cX10_isSentence 44 = .ok (.iaload, 1) := by decide +kernel
theorem dX10_isSentence_45 : decode cX10_isSentence 45 = .ok (.goto 4, 3) := by decide +kernel
theorem dX10_isSentence_48 : decode cX10_isSentence 48 = .ok (.iconst (-1), 1) := by decide +kernel
theorem dX10_isSentence_49 : decode cX10_isSentence 49 = .ok (.putfield 95, 3) := by decide +kernel
theorem dX10_isSentence_52 : decode cX10_isSentence 52 = .ok (.aload_n 0, 1) := by decide +kernel
theorem dX10_isSentence_53 : decode cX10_isSentence 53 = .ok (.getfield 95, 3) := by decide +kernel
theorem dX10_isSentence_56 : decode cX10_isSentence 56 = .ok (.tableswitch 236 3 21 #[92, 92, 115, 115, 149, 149, 154, 154, 154, 149, 149, 149, 162, 154, 192, 203, 149, 154, 115], 92) := by decide +kernel
theorem dX10_isSentence_148 : decode cX10_isSentence 148 = .ok (.aload_n 0, 1) := by decide +kernel
theorem dX10_isSentence_149 : decode cX10_isSentence 149 = .ok (.invokevirtual 98, 3) := by decide +kernel
theorem dX10_isSentence_152 : decode cX10_isSentence 152 = .ok (.ifCond .eq 14, 3) := by decide +kernel
theorem dX10_isSentence_155 : decode cX10_isSentence 155 = .ok (.aload_n 0, 1) := by decide +kernel
theorem dX10_isSentence_156 : decode cX10_isSentence 156 = .ok (.invokevirtual 102, 3) := by decide +kernel
theorem dX10_isSentence_159 : decode cX10_isSentence 159 = .ok (.ifCond .eq 7, 3) := by decide +kernel
theorem dX10_isSentence_162 : decode cX10_isSentence 162 = .ok (.iconst 1, 1) := by decide +kernel
theorem dX10_isSentence_163 : decode cX10_isSentence 163 = .ok (.goto 4, 3) := by decide +kernel
theorem dX10_isSentence_166 : decode cX10_isSentence 166 = .ok (.iconst 0, 1) := by decide +kernel
theorem dX10_isSentence_167 : decode cX10_isSentence 167 = .ok (.istore_n 1, 1) := by decide +kernel
theorem dX10_isSentence_168 : decode cX10_isSentence 168 = .ok (.goto 126, 3) := by decide +kernel
theorem dX10_isSentence_171 : decode cX10_isSentence 171 = .ok (.aload_n 0, 1) := by decide +kernel
theorem dX10_isSentence_172 : decode cX10_isSentence 172 = .ok (.invokevirtual 98, 3) := by decide +kernel
theorem dX10_isSentence_175 : decode cX10_isSentence 175 = .ok (.ifCond .eq 25, 3) := by decide +kernel
theorem dX10_isSentence_178 : decode cX10_isSentence 178 = .ok (.aload_n 0, 1) := by decide +kernel
theorem dX10_isSentence_179 : decode cX10_isSentence 179 = .ok (.bipush 58, 2) := by decide +kernel
theorem dX10_isSentence_181 : decode cX10_isSentence 181 = .ok (.invokevirtual 105, 3) := by decide +kernel
theorem dX10_isSentence_184 : decode cX10_isSentence 184 = .ok (.ifCond .eq 16, 3) := by decide +kernel
theorem dX10_isSentence_187 : decode cX10_isSentence 187 = .ok (.aload_n 0, 1) := by decide +kernel
theorem dX10_isSentence_188 : decode cX10_isSentence 188 = .ok (.iconst 0, 1) := by decide +kernel
theorem dX10_isSentence_189 : decode cX10_isSentence 189 = .ok (.iconst 0, 1) := by decide +kernel
theorem dX10_isSentence_190 : decode cX10_isSentence 190 = .ok (.invokevirtual 108, 3) := by decide +kernel
theorem dX10_isSentence_193 : decode cX10_isSentence 193 = .ok (.ifCond .eq 7, 3) := by decide +kernel
theorem dX10_isSentence_196 : decode cX10_isSentence 196 = .ok (.iconst 1, 1) := by decide +kernel
theorem dX10_isSentence_197 : decode cX10_isSentence 197 = .ok (.goto 4, 3) := by decide +kernel
theorem dX10_isSentence_200 : decode cX10_isSentence 200 = .ok (.iconst 0, 1) := by decide +kernel
theorem dX10_isSentence_201 : decode cX10_isSentence 201 = .ok (.istore_n 1, 1) := by decide +kernel
theorem dX10_isSentence_202 : decode cX10_isSentence 202 = .ok (.goto 92, 3) := by decide +kernel
theorem dX10_isSentence_205 : decode cX10_isSentence 205 = .ok (.iconst 1, 1) := by decide +kernel
theorem dX10_isSentence_206 : decode cX10_isSentence 206 = .ok (.istore_n 1, 1) := by decide +kernel
theorem dX10_isSentence_207 : decode cX10_isSentence 207 = .ok (.goto 87, 3) := by decide +kernel
theorem dX10_isSentence_210 : decode cX10_isSentence 210 = .ok (.aload_n 0, 1) := by decide +kernel
theorem dX10_isSentence_211 : decode cX10_isSentence 211 = .ok (.invokevirtual 98, 3) := by decide +kernel
theorem dX10_isSentence_214 : decode cX10_isSentence 214 = .ok (.istore_n 1, 1) := by decide +kernel
theorem dX10_isSentence_215 : decode cX10_isSentence 215 = .ok (.goto 79, 3) := by decide +kernel
theorem dX10_isSentence_218 : decode cX10_isSentence 218 = .ok (.aload_n 0, 1) := by decide +kernel
theorem dX10_isSentence_219 : decode cX10_isSentence 219 = .ok (.invokevirtual 98, 3) := by decide +kernel
theorem dX10_isSentence_222 : decode cX10_isSentence 222 = .ok (.ifCond .eq 21, 3) := by decide +kernel
theorem dX10_isSentence_225 : decode cX10_isSentence 225 = .ok (.aload_n 0, 1) := by decide +kernel
theorem dX10_isSentence_226 : decode cX10_isSentence 226 = .ok (.invokevirtual 98, 3) := by decide +kernel
theorem dX10_isSentence_229 : decode cX10_isSentence 229 = .ok (.ifCond .eq 14, 3) := by decide +kernel
theorem dX10_isSentence_232 : decode cX10_isSentence 232 = .ok (.aload_n 0, 1) := by decide +kernel
theorem dX10_isSentence_233 : decode cX10_isSentence 233 = .ok (.invokevirtual 98, 3) := by decide +kernel
theorem dX10_isSentence_236 : decode cX10_isSentence 236 = .ok (.ifCond .eq 7, 3) := by decide +kernel
theorem dX10_isSentence_239 : decode cX10_isSentence 239 = .ok (.iconst 1, 1) := by decide +kernel
theorem dX10_isSentence_240 : decode cX10_isSentence 240 = .ok (.goto 4, 3) := by decide +kernel
theorem dX10_isSentence_243 : decode cX10_isSentence 243 = .ok (.iconst 0, 1) := by decide +kernel
theorem dX10_isSentence_244 : decode cX10_isSentence 244 = .ok (.istore_n 1, 1) := by decide +kernel
theorem dX10_isSentence_245 : decode cX10_isSentence 245 = .ok (.goto 49, 3) := by decide +kernel
theorem dX10_isSentence_248 : decode cX10_isSentence 248 = .ok (.aload_n 0, 1) := by decide +kernel
theorem dX10_isSentence_249 : decode cX10_isSentence 249 = .ok (.bipush 8, 2) := by decide +kernel
theorem dX10_isSentence_251 : decode cX10_isSentence 251 = .ok (.iconst 0, 1) := by decide +kernel
theorem dX10_isSentence_252 : decode cX10_isSentence 252 = .ok (.invokevirtual 112, 3) := by decide +kernel
theorem dX10_isSentence_255 : decode cX10_isSentence 255 = .ok (.istore_n 1, 1) := by decide +kernel
theorem dX10_isSentence_256 : decode cX10_isSentence 256 = .ok (.goto 38, 3) := by decide +kernel
theorem dX10_isSentence_259 : decode cX10_isSentence 259 = .ok (.aload_n 0, 1) := by decide +kernel
theorem dX10_isSentence_260 : decode cX10_isSentence 260 = .ok (.invokevirtual 98, 3) := by decide +kernel
theorem dX10_isSentence_263 : decode cX10_isSentence 263 = .ok (.ifCond .eq 24, 3) := by decide +kernel
theorem dX10_isSentence_266 : decode cX10_isSentence 266 = .ok (.aload_n 0, 1) := by decide +kernel
theorem dX10_isSentence_267 : decode cX10_isSentence 267 = .ok (.bipush 8, 2) := by decide +kernel
theorem dX10_isSentence_269 : decode cX10_isSentence 269 = .ok (.iconst 0, 1) := by decide +kernel
theorem dX10_isSentence_270 : decode cX10_isSentence 270 = .ok (.invokevirtual 112, 3) := by decide +kernel
theorem dX10_isSentence_273 : decode cX10_isSentence 273 = .ok (.ifCond .eq 14, 3) := by decide +kernel
theorem dX10_isSentence_276 : decode cX10_isSentence 276 = .ok (.aload_n 0, 1) := by decide +kernel
theorem dX10_isSentence_277 : decode cX10_isSentence 277 = .ok (.invokevirtual 98, 3) := by decide +kernel
theorem dX10_isSentence_280 : decode cX10_isSentence 280 = .ok (.ifCond .eq 7, 3) := by decide +kernel
theorem dX10_isSentence_283 : decode cX10_isSentence 283 = .ok (.iconst 1, 1) := by decide +kernel
theorem dX10_isSentence_284 : decode cX10_isSentence 284 = .ok (.goto 4, 3) := by decide +kernel
theorem dX10_isSentence_287 : decode cX10_isSentence 287 = .ok (.iconst 0, 1) := by decide +kernel
theorem dX10_isSentence_288 : decode cX10_isSentence 288 = .ok (.istore_n 1, 1) := by decide +kernel
theorem dX10_isSentence_289 : decode cX10_isSentence 289 = .ok (.goto 5, 3) := by decide +kernel
theorem dX10_isSentence_292 : decode cX10_isSentence 292 = .ok (.iconst 0, 1) := by decide +kernel
theorem dX10_isSentence_293 : decode cX10_isSentence 293 = .ok (.istore_n 1, 1) := by decide +kernel
theorem dX10_isSentence_294 : decode cX10_isSentence 294 = .ok (.iload_n 1, 1) := by decide +kernel
theorem dX10_isSentence_295 : decode cX10_isSentence 295 = .ok (.ifCond .eq 29, 3) := by decide +kernel
theorem dX10_isSentence_298 : decode cX10_isSentence 298 = .ok (.aload_n 0, 1) := by decide +kernel
theorem dX10_isSentence_299 : decode cX10_isSentence 299 = .ok (.getfield 83, 3) := by decide +kernel
theorem dX10_isSentence_302 : decode cX10_isSentence 302 = .ok (.aload_n 0, 1) := by decide +kernel
theorem dX10_isSentence_303 : decode cX10_isSentence 303 = .ok (.getfield 28, 3) := by decide +kernel
theorem dX10_isSentence_306 : decode cX10_isSentence 306 = .ok (.iconst 1, 1) := by decide +kernel
theorem dX10_isSentence_307 : decode cX10_isSentence 307 = .ok (.isub, 1) := by decide +kernel
theorem dX10_isSentence_308 : decode cX10_isSentence 308 = .ok (.if_icmp .ne 16, 3) := by decide +kernel
theorem dX10_isSentence_311 : decode cX10_isSentence 311 = .ok (.aload_n 0, 1) := by decide +kernel
theorem dX10_isSentence_312 : decode cX10_isSentence 312 = .ok (.invokevirtual 115, 3) := by decide +kernel
theorem dX10_isSentence_315 : decode cX10_isSentence 315 = .ok (.bipush 46, 2) := by decide +kernel
theorem dX10_isSentence_317 : decode cX10_isSentence 317 = .ok (.if_icmp .ne 7, 3) := by decide +kernel
theorem dX10_isSentence_320 : decode cX10_isSentence 320 = .ok (.iconst 1, 1) := by decide +kernel
theorem dX10_isSentence_321 : decode cX10_isSentence 321 = .ok (.goto 4, 3) := by decide +kernel
theorem dX10_isSentence_324 : decode cX10_isSentence 324 = .ok (.iconst 0, 1) := by decide +kernel
theorem dX10_isSentence_325 : decode cX10_isSentence 325 = .ok (.ireturn, 1) := by decide +kernel
def EX10_isSentence : List (Nat × Nat) := [(12, 4), (12, 5), (12, 7), (12, 8), (12, 10), (101, 0)]
set_option maxHeartbeats 4000000 in
set_option maxRecDepth 20000 in
theorem uX10_isSentence (l : Launch) (dC : Nat → ClassId) (dI : Nat → Nat → Nat) (ca : Nat → ClassId) (base : Nat) (B : jF) (hB : jBok B) (hAp : jAp (dC, dI)) (hB12 : ∀ n G a H, B 12 n G a H ↔ jOb (dC, dI) 12 11 (F12 n G) a H) (hB101 : ∀ n G a H, B 101 n G a H ↔ jAr (dC, dI) (ca 1) (fun j z => True) n a H) (G0 : jT) (H0 : Heap) (r0 : Nat) : Met l yX10_isSentence (jw yX10_isSentence cX10_isSentence 2 (some .boolean)) ({ frames := 69, cells := 0, slots := 0, locals := 2235 }) (va_Pc [.ref r0] (fun U => U.heap = H0 ∧ jX B base G0 [] H0 ∧ jG dC dI ca base U ∧ G0 r0 = some (12, 0) ∧ jP (dC, dI) G0 H0 [] ∧ True)) (va_Qi (S := Unit) (fun r u => (r = 0 ∨ r = 1) ∧ (True)) (fun u t => jRt (dC, dI) B base G0 EX10_isSentence H0 [] t.heap) (jA base)) 0 0 (jA base) := by
  refine Met.ofW (cc := cX10_isSentence) (maxL := 2) (ret := (some .boolean)) (by decide) rfl ?_
  intro p e s m args below meth c s₁ Bd hml hv
  obtain ⟨rfl, hH0, hX, hG, hg_r0, hP0, hp0⟩ := hv
  have hK := hG.1
  have hx := Bd.exec
  have hb := Bd.bytes
  have hr := Bd.returns
  have hts := atoms_spec (ws := (jw yX10_isSentence cX10_isSentence 2 (some .boolean))) Bd.pre
  have htw : ∀ w ∈ jWl, w.before _ s = true := fun w h => hts w (List.mem_cons_of_mem _ h)
  have hown : s.vm.findClass RX10 = some m.cls := findClass_of_methodNamed Bd.named
  have hlocks := Bd.notSynchronized
  obtain ⟨Q, hQ⟩ : ∃ Q, Q = MQ below (va_Qi (S := Unit) (fun r u => (r = 0 ∨ r = 1) ∧ (True)) (fun u t => jRt (dC, dI) B base G0 EX10_isSentence H0 [] t.heap) (jA base)) ([.ref r0] : List Value).toArray s 0 0 (jA base) := ⟨_, rfl⟩
  rw [← hQ]
  have hl := lv_entry ([.ref r0]) (n := 2) (Nat.le_of_ble_eq_true rfl)
  rw [lg_entry_eq]
  generalize (lg_sl ([.ref r0]) ++ List.replicate (2 - (lg_sl ([.ref r0])).length) Slot.unset).toArray = ls at hl ⊢
  have hl : lv_has ls 2 [(0, .ref r0)] := hl
  generalize hR : (headSpec (jw yX10_isSentence cX10_isSentence 2 (some .boolean)) ({ frames := 69, cells := 0, slots := 0, locals := 2235 })).room = R
  subst hH0
  have hh : jSt (dC, dI) B base G0 G0 EX10_isSentence s.heap 0 0 [] [] [] s.heap [] := jSt.start hX hP0 jMc.nil jIs.nil
  clear hX hP0
  have hkm1 : ((-1) : Int32).toInt = (-1) := by decide
  have hk0 : (0 : Int32).toInt = 0 := by decide
  have hk1 : (1 : Int32).toInt = 1 := by decide
  have hk8 : (8 : Int32).toInt = 8 := by decide
  have hk46 : (46 : Int32).toInt = 46 := by decide
  have hk58 : (58 : Int32).toInt = 58 := by decide
  have hk110 : (110 : Int32).toInt = 110 := by decide
  have hly_12_1 := htw (u_lay RX10 TX10 1) (jWc_wsX100 _ (u_in_lay (by decide)))
  have hly_12_2 := htw (u_lay RX10 TX10 2) (jWc_wsX100 _ (u_in_lay (by decide)))
  have hly_12_3 := htw (u_lay RX10 TX10 3) (jWc_wsX100 _ (u_in_lay (by decide)))
  have hly_12_4 := htw (u_lay RX10 TX10 4) (jWc_wsX100 _ (u_in_lay (by decide)))
  have hly_12_5 := htw (u_lay RX10 TX10 5) (jWc_wsX100 _ (u_in_lay (by decide)))
  have hly_12_7 := htw (u_lay RX10 TX10 7) (jWc_wsX100 _ (u_in_lay (by decide)))
  have hly_12_8 := htw (u_lay RX10 TX10 8) (jWc_wsX100 _ (u_in_lay (by decide)))
  have hly_12_10 := htw (u_lay RX10 TX10 10) (jWc_wsX100 _ (u_in_lay (by decide)))
  have hlk_83 := (htw (.fieldLink RX10 83 "ProofServer$Syntax" "at" "I") (jWr_79 _ (List.mem_of_getElem? (i := 5) rfl)))
  have hlk_86 := (htw (.fieldLink RX10 86 "ProofServer$Syntax" "toldCount" "I") (jWr_79 _ (List.mem_of_getElem? (i := 6) rfl)))
  have hlk_89 := (htw (.fieldLink RX10 89 "ProofServer$Syntax" "nodeCount" "I") (jWr_79 _ (List.mem_of_getElem? (i := 7) rfl)))
  have hlk_92 := (htw (.fieldLink RX10 92 "ProofServer$Syntax" "terms" "I") (jWr_79 _ (List.mem_of_getElem? (i := 8) rfl)))
  have hlk_28 := (htw (.fieldLink RX10 28 "ProofServer$Syntax" "tokens" "I") (jWr_36 _ (List.mem_of_getElem? (i := 23) rfl)))
  have hlk_9 := (htw (.fieldLink RX10 9 "ProofServer$Syntax" "kinds" "[I") (jWr_8 _ (List.mem_of_getElem? (i := 8) rfl)))
  have hlk_15 := (htw (.fieldLink RX10 15 "ProofServer$Syntax" "values" "[I") (jWr_8 _ (List.mem_of_getElem? (i := 9) rfl)))
  have hlk_95 := (htw (.fieldLink RX10 95 "ProofServer$Syntax" "word" "I") (jWr_79 _ (List.mem_of_getElem? (i := 9) rfl)))
  refine lv_aload_n hx hb dX10_isSentence_0 rfl (lv_at hl 0 rfl) ?_
  refine lv_iconst (v := 1) hx hb dX10_isSentence_1 (by decide) ?_
  refine j7_put hx hb hown hK hh hB hAp hB12 (C := RX10) (T := TX10) (N := 11) rfl (by decide) hg_r0 (i := 4) (by decide) hly_12_4 rfl hlk_83 rfl (ty := .int) (v := .int 1) (by decide +kernel) rfl rfl (⟨_, rfl, by omega, by omega⟩) rfl (L1 := []) [] rfl rfl rfl dX10_isSentence_2 (fun H_1 locs_1 hh_1 => ?_)
  clear hh
  refine lv_aload_n hx hb dX10_isSentence_5 rfl (lv_at hl 0 rfl) ?_
  refine lv_iconst (v := 0) hx hb dX10_isSentence_6 (by decide) ?_
  refine j7_put hx hb hown hK hh_1 hB hAp hB12 (C := RX10) (T := TX10) (N := 11) rfl (by decide) hg_r0 (i := 7) (by decide) hly_12_7 rfl hlk_86 rfl (ty := .int) (v := .int 0) (by decide +kernel) rfl rfl (⟨_, rfl, by omega, by omega⟩) rfl (L1 := [(r0, 12, 4, .int 1)]) [0] rfl rfl rfl dX10_isSentence_7 (fun H_2 locs_2 hh_2 => ?_)
  clear hh_1
  refine lv_aload_n hx hb dX10_isSentence_10 rfl (lv_at hl 0 rfl) ?_
  refine lv_iconst (v := 0) hx hb dX10_isSentence_11 (by decide) ?_
  refine j7_put hx hb hown hK hh_2 hB hAp hB12 (C := RX10) (T := TX10) (N := 11) rfl (by decide) hg_r0 (i := 10) (by decide) hly_12_10 rfl hlk_89 rfl (ty := .int) (v := .int 0) (by decide +kernel) rfl rfl (⟨_, rfl, by omega, by omega⟩) rfl (L1 := [(r0, 12, 7, .int 0), (r0, 12, 4, .int 1)]) [0, 1] rfl rfl rfl dX10_isSentence_12 (fun H_3 locs_3 hh_3 => ?_)
  clear hh_2
  refine lv_aload_n hx hb dX10_isSentence_15 rfl (lv_at hl 0 rfl) ?_
  refine lv_iconst (v := 0) hx hb dX10_isSentence_16 (by decide) ?_
  refine j7_put hx hb hown hK hh_3 hB hAp hB12 (C := RX10) (T := TX10) (N := 11) rfl (by decide) hg_r0 (i := 8) (by decide) hly_12_8 rfl hlk_92 rfl (ty := .int) (v := .int 0) (by decide +kernel) rfl rfl (⟨_, rfl⟩) rfl (L1 := [(r0, 12, 10, .int 0), (r0, 12, 7, .int 0), (r0, 12, 4, .int 1)]) [0, 1, 2] rfl rfl rfl dX10_isSentence_17 (fun H_4 locs_4 hh_4 => ?_)
  clear hh_3
  refine lv_aload_n hx hb dX10_isSentence_20 rfl (lv_at hl 0 rfl) ?_
  refine lv_aload_n hx hb dX10_isSentence_21 rfl (lv_at hl 0 rfl) ?_
  obtain ⟨v_5, hv_5, hh_6⟩ := hh_4.pin (C := RX10) (T := TX10) (N := 11) hB12 rfl (by decide) hg_r0 (i := 3) (by decide) rfl
  clear hh_4
  obtain ⟨tokens_7, rfl, hlotokens_7, hhitokens_7⟩ := hv_5
  refine j7_read hx hb hown hK (C := RX10) (T := TX10) (N := 11) rfl hly_12_3 hlk_28 (hh_6.at 0 rfl) dX10_isSentence_22 ?_
  have C49 : ∀ (w0_8 : Int32) (H_8 : Heap) (locs_8 : List Loc), jSt (dC, dI) B base G0 G0 EX10_isSentence s.heap 0 0 [(r0, 12, 3, .int tokens_7), (r0, 12, 8, .int 0), (r0, 12, 10, .int 0), (r0, 12, 7, .int 0), (r0, 12, 4, .int 1)] [] [] H_8 locs_8 → (w0_8.toInt = -1 ∨ 0 < tokens_7.toInt) → ∀ ls : Array Slot, lv_has ls 2 [(0, .ref r0)] → W p l e R s m ([.ref r0] : List Value).toArray below meth c H_8 locs_8 0 0 Q (F0 m 49 ls [.int w0_8, .ref r0]) := by
    intro w0_8 H_8 locs_8 hh_8  hi_8 ls hl
    refine j7_put hx hb hown hK hh_8 hB hAp hB12 (C := RX10) (T := TX10) (N := 11) rfl (by decide) hg_r0 (i := 5) (by decide) hly_12_5 rfl hlk_95 rfl (ty := .int) (v := .int w0_8) (by decide +kernel) rfl rfl (⟨_, rfl⟩) rfl (L1 := [(r0, 12, 3, .int tokens_7), (r0, 12, 8, .int 0), (r0, 12, 10, .int 0), (r0, 12, 7, .int 0), (r0, 12, 4, .int 1)]) [0, 1, 2, 3, 4] rfl rfl rfl dX10_isSentence_49 (fun H_9 locs_9 hh_9 => ?_)
    clear hh_8
    refine lv_aload_n hx hb dX10_isSentence_52 rfl (lv_at hl 0 rfl) ?_
    refine j7_read hx hb hown hK (C := RX10) (T := TX10) (N := 11) rfl hly_12_5 hlk_95 (hh_9.at 0 rfl) dX10_isSentence_53 ?_
    have C294 : ∀ (v1_10 : Int32) (wa_10 : Int32) (H_10 : Heap) (locs_10 : List Loc), jSt (dC, dI) B base G0 G0 EX10_isSentence s.heap 0 0 [(r0, 12, 4, .int wa_10), (r0, 12, 5, .int w0_8), (r0, 12, 3, .int tokens_7)] [] [] H_10 locs_10 → (v1_10 = 0 ∨ v1_10 = 1) → (0 ≤ wa_10.toInt ∧ wa_10.toInt ≤ tokens_7.toInt + 3) → ∀ ls : Array Slot, lv_has ls 2 [(0, .ref r0), (1, .int v1_10)] → W p l e R s m ([.ref r0] : List Value).toArray below meth c H_10 locs_10 0 0 Q (F0 m 294 ls []) := by
      intro v1_10 wa_10 H_10 locs_10 hh_10 hb_v1_10 hi_10 ls hl
      obtain ⟨hi_10_0, hi_10_1⟩ := hi_10
      have hb_v1_10' := jb_01 hb_v1_10
      refine lv_iload_n hx hb dX10_isSentence_294 rfl (lv_at hl 1 rfl) ?_
      refine lv_if_eq (tgt := 324) hx hb dX10_isSentence_295 (by decide) (fun c_11 => ?_) (fun c_11 => ?_)
      · skip
        have c_11' : v1_10.toInt = 0 := jb_eq (rfl) ((by decide)) c_11
        refine lv_iconst (v := 0) hx hb dX10_isSentence_324 (by decide) ?_
        rw [hQ]
        exact W.zret (v := 0) hx hb hr (jb_nz (Or.inl rfl)) (fun t ht hW => ⟨⟨0, (), rfl, ⟨(Or.inl rfl), trivial⟩, hh_10.rt (M1 := []) [] rfl ht⟩, by rw [ht]; try exact hh_10.1.1, fun q h9 hq => by rw [ht]; try exact hh_10.1.2.1 q h9 hq⟩) hh_10.1.2.2 dX10_isSentence_325
      · skip
        have c_11' : v1_10.toInt ≠ 0 := jb_eq_n (rfl) ((by decide)) c_11
        refine lv_aload_n hx hb dX10_isSentence_298 rfl (lv_at hl 0 rfl) ?_
        refine j7_read hx hb hown hK (C := RX10) (T := TX10) (N := 11) rfl hly_12_4 hlk_83 (hh_10.at 0 rfl) dX10_isSentence_299 ?_
        refine lv_aload_n hx hb dX10_isSentence_302 rfl (lv_at hl 0 rfl) ?_
        refine j7_read hx hb hown hK (C := RX10) (T := TX10) (N := 11) rfl hly_12_3 hlk_28 (hh_10.at 2 rfl) dX10_isSentence_303 ?_
        refine lv_iconst (v := 1) hx hb dX10_isSentence_306 (by decide) ?_
        refine lv_isub hx hb dX10_isSentence_307 ?_
        refine lv_topi (fun z_12 ez_12 => ?_)
        have hz_12 : z_12.toInt = tokens_7.toInt - 1 := by rw [ez_12]; exact jb_isub2 (rfl) ((by decide)) (by omega)
        refine lv_icmp_ne (tgt := 324) hx hb dX10_isSentence_308 (by decide) (fun c_13 => ?_) (fun c_13 => ?_)
        · skip
          have c_13' : wa_10.toInt ≠ z_12.toInt := jb_ne (rfl) (rfl) c_13
          refine lv_iconst (v := 0) hx hb dX10_isSentence_324 (by decide) ?_
          rw [hQ]
          exact W.zret (v := 0) hx hb hr (jb_nz (Or.inl rfl)) (fun t ht hW => ⟨⟨0, (), rfl, ⟨(Or.inl rfl), trivial⟩, hh_10.rt (M1 := []) [] rfl ht⟩, by rw [ht]; try exact hh_10.1.1, fun q h9 hq => by rw [ht]; try exact hh_10.1.2.1 q h9 hq⟩) hh_10.1.2.2 dX10_isSentence_325
        · skip
          have c_13' : wa_10.toInt = z_12.toInt := jb_ne_n (rfl) (rfl) c_13
          refine lv_aload_n hx hb dX10_isSentence_311 rfl (lv_at hl 0 rfl) ?_
          refine va_calli (A0 := jA base) (H0 := s.heap) (va_runV (As := []) (rest := []) ⟨hx, hb, hml, hown, hts⟩ (uX10_peek l dC dI ca base B hB hAp hB12 hB101 G0 H_10 r0 tokens_7 wa_10) (cwV 0 hts (jgV (jWr_79 _ (List.mem_of_getElem? (i := 18) rfl)) (jWr_79 _ (List.mem_of_getElem? (i := 19) rfl)) (jWr_79 _ (List.mem_of_getElem? (i := 20) rfl)) (jWr_4 _ (List.mem_of_getElem? (i := 14) rfl)) (jWr_79 _ (List.mem_of_getElem? (i := 21) rfl))) rfl rfl rfl (by decide +kernel) ⟨by rw [← hR]; exact Nat.le_of_ble_eq_true rfl, by rw [← hR]; exact Nat.le_of_ble_eq_true rfl⟩) ⟨fun a U g mk q => by obtain ⟨q0, q1, q2, qK, q10, q11, q12⟩ := q; exact ⟨q0, q1, q2, jG.calling g mk a qK, q10, q11, q12⟩, hh_10.recv (C := RX10) (T := TX10) (N := 11) hB12 rfl (by decide) hg_r0 hK, fun U hU hW => ⟨rfl, hU, hh_10.2.1, hG.step hW hU hh_10.1, hg_r0, (hh_10.2.2.1.sub (L1 := [(r0, 12, 3, .int tokens_7), (r0, 12, 4, .int wa_10)]) [2, 0] rfl), by first | omega | (refine ⟨?_, ?_, ?_, ?_⟩ <;> (first | omega | rfl | assumption | decide | exact Or.inl rfl | exact Or.inr rfl | (simp only; omega)))⟩⟩ rfl rfl hl.1 rfl (lv_room (Nat.le_of_ble_eq_true rfl)) dX10_isSentence_312 ⟨Nat.zero_le _, Nat.zero_le _⟩) hh_10.1 (fun q _ h => h) (fun q h => h) (fun r_15 u_14 t_14 H_14 locs_14 ht_14 hvm_14 hr_15 hb_14 hz_14 hk_14 hS_14 => ?_)
          rw [ht_14] at hb_14
          obtain ⟨hb_141, hb_142, hb_143, hb_144, hb_145⟩ := hb_14
          have hh_14 : jSt (dC, dI) B base G0 G0 EX10_isSentence s.heap 0 0 [(r0, 12, 4, .int wa_10), (r0, 12, 5, .int w0_8), (r0, 12, 3, .int tokens_7)] [] [] H_14 locs_14 := ((hh_10.call hb_141 hb_142 hb_143 hb_144 hS_14 rfl (L1 := [(r0, 12, 4, .int wa_10), (r0, 12, 5, .int w0_8), (r0, 12, 3, .int tokens_7)]) [0, 1, 2] rfl rfl (M1 := []) [] rfl rfl (I1 := []) [] rfl rfl).more hb_145)
          clear hh_10 ht_14 hvm_14 hz_14 hk_14 hS_14 hb_141 hb_142 hb_143 hb_144 hb_145
          refine lv_bipush (v := 46) hx hb dX10_isSentence_315 (by decide) ?_
          refine lv_icmp_ne (tgt := 324) hx hb dX10_isSentence_317 (by decide) (fun c_16 => ?_) (fun c_16 => ?_)
          · skip
            have c_16' : r_15.toInt ≠ 46 := jb_ne (rfl) ((by decide)) c_16
            try clear hr_15
            refine lv_iconst (v := 0) hx hb dX10_isSentence_324 (by decide) ?_
            rw [hQ]
            exact W.zret (v := 0) hx hb hr (jb_nz (Or.inl rfl)) (fun t ht hW => ⟨⟨0, (), rfl, ⟨(Or.inl rfl), trivial⟩, hh_14.rt (M1 := []) [] rfl ht⟩, by rw [ht]; try exact hh_14.1.1, fun q h9 hq => by rw [ht]; try exact hh_14.1.2.1 q h9 hq⟩) hh_14.1.2.2 dX10_isSentence_325
          · skip
            have c_16' : r_15.toInt = 46 := jb_ne_n (rfl) ((by decide)) c_16
            first | (have hr_15q := hr_15.resolve_left (by omega); clear hr_15) | (have hr_15q := hr_15.resolve_right (by omega); clear hr_15) | try clear hr_15
            refine lv_iconst (v := 1) hx hb dX10_isSentence_320 (by decide) ?_
            refine lv_goto (tgt := 325) hx hb dX10_isSentence_321 (by decide) ?_
            rw [hQ]
            exact W.zret (v := 1) hx hb hr (jb_nz (Or.inr rfl)) (fun t ht hW => ⟨⟨1, (), rfl, ⟨(Or.inr rfl), trivial⟩, hh_14.rt (M1 := []) [] rfl ht⟩, by rw [ht]; try exact hh_14.1.1, fun q h9 hq => by rw [ht]; try exact hh_14.1.2.1 q h9 hq⟩) hh_14.1.2.2 dX10_isSentence_325
    have C210 : ∀ (H_18 : Heap) (locs_18 : List Loc), jSt (dC, dI) B base G0 G0 EX10_isSentence s.heap 0 0 [(r0, 12, 5, .int w0_8), (r0, 12, 3, .int tokens_7), (r0, 12, 8, .int 0), (r0, 12, 10, .int 0), (r0, 12, 7, .int 0), (r0, 12, 4, .int 1)] [] [] H_18 locs_18 → (9 ≤ w0_8.toInt ∧ w0_8.toInt ≤ 20) → ∀ ls : Array Slot, lv_has ls 2 [(0, .ref r0)] → W p l e R s m ([.ref r0] : List Value).toArray below meth c H_18 locs_18 0 0 Q (F0 m 210 ls []) := by
      intro  H_18 locs_18 hh_18  hi_18 ls hl
      obtain ⟨hi_18_0, hi_18_1⟩ := hi_18
      refine lv_aload_n hx hb dX10_isSentence_210 rfl (lv_at hl 0 rfl) ?_
      refine va_calli (A0 := jA base) (H0 := s.heap) (va_runV (As := []) (rest := []) ⟨hx, hb, hml, hown, hts⟩ (uX10_isName l dC dI ca base B hB hAp hB12 hB101 G0 H_18 r0 tokens_7 1) (cwV 0 hts (jgV (jWr_79 _ (List.mem_of_getElem? (i := 10) rfl)) (jWr_79 _ (List.mem_of_getElem? (i := 11) rfl)) (jWr_79 _ (List.mem_of_getElem? (i := 12) rfl)) (jWr_4 _ (List.mem_of_getElem? (i := 14) rfl)) (jWr_79 _ (List.mem_of_getElem? (i := 13) rfl))) rfl rfl rfl (by decide +kernel) ⟨by rw [← hR]; exact Nat.le_of_ble_eq_true rfl, by rw [← hR]; exact Nat.le_of_ble_eq_true rfl⟩) ⟨fun a U g mk q => by obtain ⟨q0, q1, q2, qK, q10, q11, q12⟩ := q; exact ⟨q0, q1, q2, jG.calling g mk a qK, q10, q11, q12⟩, hh_18.recv (C := RX10) (T := TX10) (N := 11) hB12 rfl (by decide) hg_r0 hK, fun U hU hW => ⟨rfl, hU, hh_18.2.1, hG.step hW hU hh_18.1, hg_r0, (hh_18.2.2.1.sub (L1 := [(r0, 12, 3, .int tokens_7), (r0, 12, 4, .int 1)]) [1, 5] rfl), by first | omega | (refine ⟨?_, ?_, ?_, ?_, ?_⟩ <;> (first | omega | rfl | assumption | decide | exact Or.inl rfl | exact Or.inr rfl | (simp only; omega)))⟩⟩ rfl rfl hl.1 rfl (lv_room (Nat.le_of_ble_eq_true rfl)) dX10_isSentence_211 ⟨Nat.zero_le _, Nat.zero_le _⟩) hh_18.1 (fun q _ h => h) (fun q h => h) (fun r_20 u_19 t_19 H_19 locs_19 ht_19 hvm_19 hr_20 hb_19 hz_19 hk_19 hS_19 => ?_)
      obtain ⟨qa_19, rfl⟩ : ∃ z, z = u_19 := ⟨_, rfl⟩
      rw [ht_19] at hb_19
      obtain ⟨hb_191, hb_192, hb_193, hb_194, hb_195⟩ := hb_19
      have hh_19 : jSt (dC, dI) B base G0 G0 EX10_isSentence s.heap 0 0 [(r0, 12, 4, .int qa_19), (r0, 12, 5, .int w0_8), (r0, 12, 3, .int tokens_7), (r0, 12, 8, .int 0), (r0, 12, 10, .int 0)] [] [] H_19 locs_19 := ((hh_18.call hb_191 hb_192 hb_193 hb_194 hS_19 rfl (L1 := [(r0, 12, 5, .int w0_8), (r0, 12, 3, .int tokens_7), (r0, 12, 8, .int 0), (r0, 12, 10, .int 0)]) [0, 1, 2, 3] rfl rfl (M1 := []) [] rfl rfl (I1 := []) [] rfl rfl).more hb_195)
      clear hh_18 ht_19 hvm_19 hz_19 hk_19 hS_19 hb_191 hb_192 hb_193 hb_194 hb_195
      obtain ⟨hr_20b, hr_20p⟩ := hr_20
      obtain ⟨hr_20p_0, hr_20p_1⟩ := hr_20p
      have hr_20' := jb_01 hr_20b
      refine lv_istore_n (lv' := [(1, .int r_20), (0, .ref r0)]) hx hb dX10_isSentence_214 rfl hl (by decide) rfl (fun ls hl => ?_)
      refine lv_goto (tgt := 294) hx hb dX10_isSentence_215 (by decide) ?_
      exact C294 r_20 qa_19 _ _ (hh_19.sub (L1 := [(r0, 12, 4, .int qa_19), (r0, 12, 5, .int w0_8), (r0, 12, 3, .int tokens_7)]) [0, 1, 2] rfl (M1 := []) [] rfl (I1 := []) [] rfl) (hr_20b) (by first | omega | (refine ⟨?_, ?_⟩ <;> (first | omega | rfl | assumption | decide | exact Or.inl rfl | exact Or.inr rfl | (simp only; omega)))) _ (lv_sub hl [1, 0] rfl)
    have C205 : ∀ (H_21 : Heap) (locs_21 : List Loc), jSt (dC, dI) B base G0 G0 EX10_isSentence s.heap 0 0 [(r0, 12, 5, .int w0_8), (r0, 12, 3, .int tokens_7), (r0, 12, 8, .int 0), (r0, 12, 10, .int 0), (r0, 12, 7, .int 0), (r0, 12, 4, .int 1)] [] [] H_21 locs_21 → (7 ≤ w0_8.toInt ∧ w0_8.toInt ≤ 19) → ∀ ls : Array Slot, lv_has ls 2 [(0, .ref r0)] → W p l e R s m ([.ref r0] : List Value).toArray below meth c H_21 locs_21 0 0 Q (F0 m 205 ls []) := by
      intro  H_21 locs_21 hh_21  hi_21 ls hl
      obtain ⟨hi_21_0, hi_21_1⟩ := hi_21
      refine lv_iconst (v := 1) hx hb dX10_isSentence_205 (by decide) ?_
      refine lv_istore_n (lv' := [(1, .int 1), (0, .ref r0)]) hx hb dX10_isSentence_206 rfl hl (by decide) rfl (fun ls hl => ?_)
      refine lv_goto (tgt := 294) hx hb dX10_isSentence_207 (by decide) ?_
      exact C294 1 1 _ _ (hh_21.sub (L1 := [(r0, 12, 4, .int 1), (r0, 12, 5, .int w0_8), (r0, 12, 3, .int tokens_7)]) [5, 0, 1] rfl (M1 := []) [] rfl (I1 := []) [] rfl) (Or.inr rfl) (by first | omega | (refine ⟨?_, ?_⟩ <;> (first | omega | rfl | assumption | decide | exact Or.inl rfl | exact Or.inr rfl | (simp only; omega)))) _ (lv_sub hl [1, 0] rfl)
    have C171 : ∀ (H_22 : Heap) (locs_22 : List Loc), jSt (dC, dI) B base G0 G0 EX10_isSentence s.heap 0 0 [(r0, 12, 5, .int w0_8), (r0, 12, 3, .int tokens_7), (r0, 12, 8, .int 0), (r0, 12, 10, .int 0), (r0, 12, 7, .int 0), (r0, 12, 4, .int 1)] [] [] H_22 locs_22 → (5 ≤ w0_8.toInt ∧ w0_8.toInt ≤ 21) → ∀ ls : Array Slot, lv_has ls 2 [(0, .ref r0)] → W p l e R s m ([.ref r0] : List Value).toArray below meth c H_22 locs_22 0 0 Q (F0 m 171 ls []) := by
      intro  H_22 locs_22 hh_22  hi_22 ls hl
      obtain ⟨hi_22_0, hi_22_1⟩ := hi_22
      refine lv_aload_n hx hb dX10_isSentence_171 rfl (lv_at hl 0 rfl) ?_
      refine va_calli (A0 := jA base) (H0 := s.heap) (va_runV (As := []) (rest := []) ⟨hx, hb, hml, hown, hts⟩ (uX10_isName l dC dI ca base B hB hAp hB12 hB101 G0 H_22 r0 tokens_7 1) (cwV 0 hts (jgV (jWr_79 _ (List.mem_of_getElem? (i := 10) rfl)) (jWr_79 _ (List.mem_of_getElem? (i := 11) rfl)) (jWr_79 _ (List.mem_of_getElem? (i := 12) rfl)) (jWr_4 _ (List.mem_of_getElem? (i := 14) rfl)) (jWr_79 _ (List.mem_of_getElem? (i := 13) rfl))) rfl rfl rfl (by decide +kernel) ⟨by rw [← hR]; exact Nat.le_of_ble_eq_true rfl, by rw [← hR]; exact Nat.le_of_ble_eq_true rfl⟩) ⟨fun a U g mk q => by obtain ⟨q0, q1, q2, qK, q10, q11, q12⟩ := q; exact ⟨q0, q1, q2, jG.calling g mk a qK, q10, q11, q12⟩, hh_22.recv (C := RX10) (T := TX10) (N := 11) hB12 rfl (by decide) hg_r0 hK, fun U hU hW => ⟨rfl, hU, hh_22.2.1, hG.step hW hU hh_22.1, hg_r0, (hh_22.2.2.1.sub (L1 := [(r0, 12, 3, .int tokens_7), (r0, 12, 4, .int 1)]) [1, 5] rfl), by first | omega | (refine ⟨?_, ?_, ?_, ?_, ?_⟩ <;> (first | omega | rfl | assumption | decide | exact Or.inl rfl | exact Or.inr rfl | (simp only; omega)))⟩⟩ rfl rfl hl.1 rfl (lv_room (Nat.le_of_ble_eq_true rfl)) dX10_isSentence_172 ⟨Nat.zero_le _, Nat.zero_le _⟩) hh_22.1 (fun q _ h => h) (fun q h => h) (fun r_24 u_23 t_23 H_23 locs_23 ht_23 hvm_23 hr_24 hb_23 hz_23 hk_23 hS_23 => ?_)
      obtain ⟨qa_23, rfl⟩ : ∃ z, z = u_23 := ⟨_, rfl⟩
      rw [ht_23] at hb_23
      obtain ⟨hb_231, hb_232, hb_233, hb_234, hb_235⟩ := hb_23
      have hh_23 : jSt (dC, dI) B base G0 G0 EX10_isSentence s.heap 0 0 [(r0, 12, 4, .int qa_23), (r0, 12, 5, .int w0_8), (r0, 12, 3, .int tokens_7), (r0, 12, 8, .int 0), (r0, 12, 10, .int 0)] [] [] H_23 locs_23 := ((hh_22.call hb_231 hb_232 hb_233 hb_234 hS_23 rfl (L1 := [(r0, 12, 5, .int w0_8), (r0, 12, 3, .int tokens_7), (r0, 12, 8, .int 0), (r0, 12, 10, .int 0)]) [0, 1, 2, 3] rfl rfl (M1 := []) [] rfl rfl (I1 := []) [] rfl rfl).more hb_235)
      clear hh_22 ht_23 hvm_23 hz_23 hk_23 hS_23 hb_231 hb_232 hb_233 hb_234 hb_235
      obtain ⟨hr_24b, hr_24p⟩ := hr_24
      obtain ⟨hr_24p_0, hr_24p_1⟩ := hr_24p
      have hr_24' := jb_01 hr_24b
      refine lv_if_eq (tgt := 200) hx hb dX10_isSentence_175 (by decide) (fun c_25 => ?_) (fun c_25 => ?_)
      · skip
        have c_25' : r_24.toInt = 0 := jb_eq (rfl) ((by decide)) c_25
        first | (have hr_24p_1q := hr_24p_1.resolve_left (by omega); clear hr_24p_1) | (have hr_24p_1q := hr_24p_1.resolve_right (by omega); clear hr_24p_1) | skip
        refine lv_iconst (v := 0) hx hb dX10_isSentence_200 (by decide) ?_
        refine lv_istore_n (lv' := [(1, .int 0), (0, .ref r0)]) hx hb dX10_isSentence_201 rfl hl (by decide) rfl (fun ls hl => ?_)
        refine lv_goto (tgt := 294) hx hb dX10_isSentence_202 (by decide) ?_
        exact C294 0 qa_23 _ _ (hh_23.sub (L1 := [(r0, 12, 4, .int qa_23), (r0, 12, 5, .int w0_8), (r0, 12, 3, .int tokens_7)]) [0, 1, 2] rfl (M1 := []) [] rfl (I1 := []) [] rfl) (Or.inl rfl) (by first | omega | (refine ⟨?_, ?_⟩ <;> (first | omega | rfl | assumption | decide | exact Or.inl rfl | exact Or.inr rfl | (simp only; omega)))) _ (lv_sub hl [1, 0] rfl)
      · skip
        have c_25' : r_24.toInt ≠ 0 := jb_eq_n (rfl) ((by decide)) c_25
        first | (have hr_24p_1q := hr_24p_1.resolve_left (by omega); clear hr_24p_1) | (have hr_24p_1q := hr_24p_1.resolve_right (by omega); clear hr_24p_1) | skip
        refine lv_aload_n hx hb dX10_isSentence_178 rfl (lv_at hl 0 rfl) ?_
        refine lv_bipush (v := 58) hx hb dX10_isSentence_179 (by decide) ?_
        refine va_calli (A0 := jA base) (H0 := s.heap) (va_runV (As := [.int 58]) (rest := []) ⟨hx, hb, hml, hown, hts⟩ (uX10_isSign l dC dI ca base B hB hAp hB12 hB101 G0 H_23 r0 58 tokens_7 qa_23) (cwV 1 hts (jgV (jWr_80 _ (List.mem_of_getElem? (i := 2) rfl)) (jWr_80 _ (List.mem_of_getElem? (i := 3) rfl)) (jWr_80 _ (List.mem_of_getElem? (i := 4) rfl)) (jWr_4 _ (List.mem_of_getElem? (i := 14) rfl)) (jWr_80 _ (List.mem_of_getElem? (i := 5) rfl))) rfl rfl rfl (by decide +kernel) ⟨by rw [← hR]; exact Nat.le_of_ble_eq_true rfl, by rw [← hR]; exact Nat.le_of_ble_eq_true rfl⟩) ⟨fun a U g mk q => by obtain ⟨q0, q1, q2, qK, q10, q11, q12⟩ := q; exact ⟨q0, q1, q2, jG.calling g mk a qK, q10, q11, q12⟩, hh_23.recv (C := RX10) (T := TX10) (N := 11) hB12 rfl (by decide) hg_r0 hK, fun U hU hW => ⟨rfl, hU, hh_23.2.1, hG.step hW hU hh_23.1, hg_r0, (hh_23.2.2.1.sub (L1 := [(r0, 12, 3, .int tokens_7), (r0, 12, 4, .int qa_23)]) [2, 0] rfl), by first | omega | (refine ⟨?_, ?_, ?_, ?_, ?_⟩ <;> (first | omega | rfl | assumption | decide | exact Or.inl rfl | exact Or.inr rfl | (simp only; omega)))⟩⟩ rfl rfl hl.1 rfl (lv_room (Nat.le_of_ble_eq_true rfl)) dX10_isSentence_181 ⟨Nat.zero_le _, Nat.zero_le _⟩) hh_23.1 (fun q _ h => h) (fun q h => h) (fun r_27 u_26 t_26 H_26 locs_26 ht_26 hvm_26 hr_27 hb_26 hz_26 hk_26 hS_26 => ?_)
        obtain ⟨qa_26, rfl⟩ : ∃ z, z = u_26 := ⟨_, rfl⟩
        rw [ht_26] at hb_26
        obtain ⟨hb_261, hb_262, hb_263, hb_264, hb_265⟩ := hb_26
        have hh_26 : jSt (dC, dI) B base G0 G0 EX10_isSentence s.heap 0 0 [(r0, 12, 4, .int qa_26), (r0, 12, 5, .int w0_8), (r0, 12, 3, .int tokens_7), (r0, 12, 8, .int 0), (r0, 12, 10, .int 0)] [] [] H_26 locs_26 := ((hh_23.call hb_261 hb_262 hb_263 hb_264 hS_26 rfl (L1 := [(r0, 12, 5, .int w0_8), (r0, 12, 3, .int tokens_7), (r0, 12, 8, .int 0), (r0, 12, 10, .int 0)]) [1, 2, 3, 4] rfl rfl (M1 := []) [] rfl rfl (I1 := []) [] rfl rfl).more hb_265)
        clear hh_23 ht_26 hvm_26 hz_26 hk_26 hS_26 hb_261 hb_262 hb_263 hb_264 hb_265
        obtain ⟨hr_27b, hr_27p⟩ := hr_27
        obtain ⟨hr_27p_0, hr_27p_1⟩ := hr_27p
        have hr_27' := jb_01 hr_27b
        refine lv_if_eq (tgt := 200) hx hb dX10_isSentence_184 (by decide) (fun c_28 => ?_) (fun c_28 => ?_)
        · skip
          have c_28' : r_27.toInt = 0 := jb_eq (rfl) ((by decide)) c_28
          first | (have hr_27p_1q := hr_27p_1.resolve_left (by omega); clear hr_27p_1) | (have hr_27p_1q := hr_27p_1.resolve_right (by omega); clear hr_27p_1) | skip
          refine lv_iconst (v := 0) hx hb dX10_isSentence_200 (by decide) ?_
          refine lv_istore_n (lv' := [(1, .int 0), (0, .ref r0)]) hx hb dX10_isSentence_201 rfl hl (by decide) rfl (fun ls hl => ?_)
          refine lv_goto (tgt := 294) hx hb dX10_isSentence_202 (by decide) ?_
          exact C294 0 qa_26 _ _ (hh_26.sub (L1 := [(r0, 12, 4, .int qa_26), (r0, 12, 5, .int w0_8), (r0, 12, 3, .int tokens_7)]) [0, 1, 2] rfl (M1 := []) [] rfl (I1 := []) [] rfl) (Or.inl rfl) (by first | omega | (refine ⟨?_, ?_⟩ <;> (first | omega | rfl | assumption | decide | exact Or.inl rfl | exact Or.inr rfl | (simp only; omega)))) _ (lv_sub hl [1, 0] rfl)
        · skip
          have c_28' : r_27.toInt ≠ 0 := jb_eq_n (rfl) ((by decide)) c_28
          first | (have hr_27p_1q := hr_27p_1.resolve_left (by omega); clear hr_27p_1) | (have hr_27p_1q := hr_27p_1.resolve_right (by omega); clear hr_27p_1) | skip
          refine lv_aload_n hx hb dX10_isSentence_187 rfl (lv_at hl 0 rfl) ?_
          refine lv_iconst (v := 0) hx hb dX10_isSentence_188 (by decide) ?_
          refine lv_iconst (v := 0) hx hb dX10_isSentence_189 (by decide) ?_
          refine va_calli (A0 := jA base) (H0 := s.heap) (va_runV (As := [.int 0, .int 0]) (rest := []) ⟨hx, hb, hml, hown, hts⟩ ((aX10_isOneChain l dC dI ca base B hB hAp hB12 hB101 12).2 2 G0 H_26 r0 0 0 tokens_7 qa_26 0) (cwV 2 hts (jgV (jWr_80 _ (List.mem_of_getElem? (i := 6) rfl)) (jWr_80 _ (List.mem_of_getElem? (i := 7) rfl)) (jWr_80 _ (List.mem_of_getElem? (i := 8) rfl)) (jWr_4 _ (List.mem_of_getElem? (i := 14) rfl)) (jWr_80 _ (List.mem_of_getElem? (i := 9) rfl))) rfl rfl rfl (by decide +kernel) ⟨by rw [← hR]; exact Nat.le_of_ble_eq_true rfl, by rw [← hR]; exact Nat.le_of_ble_eq_true rfl⟩) ⟨fun a U g mk q => by obtain ⟨q0, q1, q2, qK, q10, q11, q12⟩ := q; exact ⟨q0, q1, q2, jG.calling g mk a qK, q10, q11, q12⟩, hh_26.recv (C := RX10) (T := TX10) (N := 11) hB12 rfl (by decide) hg_r0 hK, fun U hU hW => ⟨rfl, hU, hh_26.2.1, hG.step hW hU hh_26.1, hg_r0, (hh_26.2.2.1.sub (L1 := [(r0, 12, 3, .int tokens_7), (r0, 12, 4, .int qa_26), (r0, 12, 10, .int 0)]) [2, 0, 4] rfl), by first | omega | (refine ⟨?_, ?_, ?_, ?_, ?_, ?_, ?_, ?_, ?_, ?_, ?_⟩ <;> (first | omega | rfl | assumption | decide | exact Or.inl rfl | exact Or.inr rfl | (simp only; omega)))⟩⟩ rfl rfl hl.1 rfl (lv_room (Nat.le_of_ble_eq_true rfl)) dX10_isSentence_190 ⟨Nat.zero_le _, Nat.zero_le _⟩) hh_26.1 (fun q _ h => h) (fun q h => h) (fun r_30 u_29 t_29 H_29 locs_29 ht_29 hvm_29 hr_30 hb_29 hz_29 hk_29 hS_29 => ?_)
          obtain ⟨qa_29, qc_29⟩ := u_29
          rw [ht_29] at hb_29
          obtain ⟨hb_291, hb_292, hb_293, hb_294, hb_295⟩ := hb_29
          have hh_29 : jSt (dC, dI) B base G0 G0 EX10_isSentence s.heap 0 0 [(r0, 12, 4, .int qa_29), (r0, 12, 10, .int qc_29), (r0, 12, 5, .int w0_8), (r0, 12, 3, .int tokens_7), (r0, 12, 8, .int 0)] [] [] H_29 locs_29 := ((hh_26.call hb_291 hb_292 hb_293 hb_294 hS_29 rfl (L1 := [(r0, 12, 5, .int w0_8), (r0, 12, 3, .int tokens_7), (r0, 12, 8, .int 0)]) [1, 2, 3] rfl rfl (M1 := []) [] rfl rfl (I1 := []) [] rfl rfl).more hb_295)
          clear hh_26 ht_29 hvm_29 hz_29 hk_29 hS_29 hb_291 hb_292 hb_293 hb_294 hb_295
          try simp only at hr_30
          obtain ⟨hr_30b, hr_30p⟩ := hr_30
          obtain ⟨hr_30p_0, hr_30p_1, hr_30p_2, hr_30p_3, hr_30p_4⟩ := hr_30p
          have hr_30' := jb_01 hr_30b
          refine lv_if_eq (tgt := 200) hx hb dX10_isSentence_193 (by decide) (fun c_31 => ?_) (fun c_31 => ?_)
          · skip
            have c_31' : r_30.toInt = 0 := jb_eq (rfl) ((by decide)) c_31
            first | (have hr_30p_4q := hr_30p_4.resolve_left (by omega); clear hr_30p_4) | (have hr_30p_4q := hr_30p_4.resolve_right (by omega); clear hr_30p_4) | skip
            refine lv_iconst (v := 0) hx hb dX10_isSentence_200 (by decide) ?_
            refine lv_istore_n (lv' := [(1, .int 0), (0, .ref r0)]) hx hb dX10_isSentence_201 rfl hl (by decide) rfl (fun ls hl => ?_)
            refine lv_goto (tgt := 294) hx hb dX10_isSentence_202 (by decide) ?_
            exact C294 0 qa_29 _ _ (hh_29.sub (L1 := [(r0, 12, 4, .int qa_29), (r0, 12, 5, .int w0_8), (r0, 12, 3, .int tokens_7)]) [0, 2, 3] rfl (M1 := []) [] rfl (I1 := []) [] rfl) (Or.inl rfl) (by first | omega | (refine ⟨?_, ?_⟩ <;> (first | omega | rfl | assumption | decide | exact Or.inl rfl | exact Or.inr rfl | (simp only; omega)))) _ (lv_sub hl [1, 0] rfl)
          · skip
            have c_31' : r_30.toInt ≠ 0 := jb_eq_n (rfl) ((by decide)) c_31
            first | (have hr_30p_4q := hr_30p_4.resolve_left (by omega); clear hr_30p_4) | (have hr_30p_4q := hr_30p_4.resolve_right (by omega); clear hr_30p_4) | skip
            refine lv_iconst (v := 1) hx hb dX10_isSentence_196 (by decide) ?_
            refine lv_goto (tgt := 201) hx hb dX10_isSentence_197 (by decide) ?_
            refine lv_istore_n (lv' := [(1, .int 1), (0, .ref r0)]) hx hb dX10_isSentence_201 rfl hl (by decide) rfl (fun ls hl => ?_)
            refine lv_goto (tgt := 294) hx hb dX10_isSentence_202 (by decide) ?_
            exact C294 1 qa_29 _ _ (hh_29.sub (L1 := [(r0, 12, 4, .int qa_29), (r0, 12, 5, .int w0_8), (r0, 12, 3, .int tokens_7)]) [0, 2, 3] rfl (M1 := []) [] rfl (I1 := []) [] rfl) (Or.inr rfl) (by first | omega | (refine ⟨?_, ?_⟩ <;> (first | omega | rfl | assumption | decide | exact Or.inl rfl | exact Or.inr rfl | (simp only; omega)))) _ (lv_sub hl [1, 0] rfl)
    have C148 : ∀ (H_32 : Heap) (locs_32 : List Loc), jSt (dC, dI) B base G0 G0 EX10_isSentence s.heap 0 0 [(r0, 12, 5, .int w0_8), (r0, 12, 3, .int tokens_7), (r0, 12, 8, .int 0), (r0, 12, 10, .int 0), (r0, 12, 7, .int 0), (r0, 12, 4, .int 1)] [] [] H_32 locs_32 → (3 ≤ w0_8.toInt ∧ w0_8.toInt ≤ 4) → ∀ ls : Array Slot, lv_has ls 2 [(0, .ref r0)] → W p l e R s m ([.ref r0] : List Value).toArray below meth c H_32 locs_32 0 0 Q (F0 m 148 ls []) := by
      intro  H_32 locs_32 hh_32  hi_32 ls hl
      obtain ⟨hi_32_0, hi_32_1⟩ := hi_32
      refine lv_aload_n hx hb dX10_isSentence_148 rfl (lv_at hl 0 rfl) ?_
      refine va_calli (A0 := jA base) (H0 := s.heap) (va_runV (As := []) (rest := []) ⟨hx, hb, hml, hown, hts⟩ (uX10_isName l dC dI ca base B hB hAp hB12 hB101 G0 H_32 r0 tokens_7 1) (cwV 0 hts (jgV (jWr_79 _ (List.mem_of_getElem? (i := 10) rfl)) (jWr_79 _ (List.mem_of_getElem? (i := 11) rfl)) (jWr_79 _ (List.mem_of_getElem? (i := 12) rfl)) (jWr_4 _ (List.mem_of_getElem? (i := 14) rfl)) (jWr_79 _ (List.mem_of_getElem? (i := 13) rfl))) rfl rfl rfl (by decide +kernel) ⟨by rw [← hR]; exact Nat.le_of_ble_eq_true rfl, by rw [← hR]; exact Nat.le_of_ble_eq_true rfl⟩) ⟨fun a U g mk q => by obtain ⟨q0, q1, q2, qK, q10, q11, q12⟩ := q; exact ⟨q0, q1, q2, jG.calling g mk a qK, q10, q11, q12⟩, hh_32.recv (C := RX10) (T := TX10) (N := 11) hB12 rfl (by decide) hg_r0 hK, fun U hU hW => ⟨rfl, hU, hh_32.2.1, hG.step hW hU hh_32.1, hg_r0, (hh_32.2.2.1.sub (L1 := [(r0, 12, 3, .int tokens_7), (r0, 12, 4, .int 1)]) [1, 5] rfl), by first | omega | (refine ⟨?_, ?_, ?_, ?_, ?_⟩ <;> (first | omega | rfl | assumption | decide | exact Or.inl rfl | exact Or.inr rfl | (simp only; omega)))⟩⟩ rfl rfl hl.1 rfl (lv_room (Nat.le_of_ble_eq_true rfl)) dX10_isSentence_149 ⟨Nat.zero_le _, Nat.zero_le _⟩) hh_32.1 (fun q _ h => h) (fun q h => h) (fun r_34 u_33 t_33 H_33 locs_33 ht_33 hvm_33 hr_34 hb_33 hz_33 hk_33 hS_33 => ?_)
      obtain ⟨qa_33, rfl⟩ : ∃ z, z = u_33 := ⟨_, rfl⟩
      rw [ht_33] at hb_33
      obtain ⟨hb_331, hb_332, hb_333, hb_334, hb_335⟩ := hb_33
      have hh_33 : jSt (dC, dI) B base G0 G0 EX10_isSentence s.heap 0 0 [(r0, 12, 4, .int qa_33), (r0, 12, 5, .int w0_8), (r0, 12, 3, .int tokens_7), (r0, 12, 8, .int 0), (r0, 12, 10, .int 0)] [] [] H_33 locs_33 := ((hh_32.call hb_331 hb_332 hb_333 hb_334 hS_33 rfl (L1 := [(r0, 12, 5, .int w0_8), (r0, 12, 3, .int tokens_7), (r0, 12, 8, .int 0), (r0, 12, 10, .int 0)]) [0, 1, 2, 3] rfl rfl (M1 := []) [] rfl rfl (I1 := []) [] rfl rfl).more hb_335)
      clear hh_32 ht_33 hvm_33 hz_33 hk_33 hS_33 hb_331 hb_332 hb_333 hb_334 hb_335
      obtain ⟨hr_34b, hr_34p⟩ := hr_34
      obtain ⟨hr_34p_0, hr_34p_1⟩ := hr_34p
      have hr_34' := jb_01 hr_34b
      refine lv_if_eq (tgt := 166) hx hb dX10_isSentence_152 (by decide) (fun c_35 => ?_) (fun c_35 => ?_)
      · skip
        have c_35' : r_34.toInt = 0 := jb_eq (rfl) ((by decide)) c_35
        first | (have hr_34p_1q := hr_34p_1.resolve_left (by omega); clear hr_34p_1) | (have hr_34p_1q := hr_34p_1.resolve_right (by omega); clear hr_34p_1) | skip
        refine lv_iconst (v := 0) hx hb dX10_isSentence_166 (by decide) ?_
        refine lv_istore_n (lv' := [(1, .int 0), (0, .ref r0)]) hx hb dX10_isSentence_167 rfl hl (by decide) rfl (fun ls hl => ?_)
        refine lv_goto (tgt := 294) hx hb dX10_isSentence_168 (by decide) ?_
        exact C294 0 qa_33 _ _ (hh_33.sub (L1 := [(r0, 12, 4, .int qa_33), (r0, 12, 5, .int w0_8), (r0, 12, 3, .int tokens_7)]) [0, 1, 2] rfl (M1 := []) [] rfl (I1 := []) [] rfl) (Or.inl rfl) (by first | omega | (refine ⟨?_, ?_⟩ <;> (first | omega | rfl | assumption | decide | exact Or.inl rfl | exact Or.inr rfl | (simp only; omega)))) _ (lv_sub hl [1, 0] rfl)
      · skip
        have c_35' : r_34.toInt ≠ 0 := jb_eq_n (rfl) ((by decide)) c_35
        first | (have hr_34p_1q := hr_34p_1.resolve_left (by omega); clear hr_34p_1) | (have hr_34p_1q := hr_34p_1.resolve_right (by omega); clear hr_34p_1) | skip
        refine lv_aload_n hx hb dX10_isSentence_155 rfl (lv_at hl 0 rfl) ?_
        refine va_calli (A0 := jA base) (H0 := s.heap) (va_runV (As := []) (rest := []) ⟨hx, hb, hml, hown, hts⟩ (uX10_isArity l dC dI ca base B hB hAp hB12 hB101 G0 H_33 r0 tokens_7 qa_33) (cwV 0 hts (jgV (jWr_79 _ (List.mem_of_getElem? (i := 22) rfl)) (jWr_79 _ (List.mem_of_getElem? (i := 23) rfl)) (jWr_80 _ (List.mem_of_getElem? (i := 0) rfl)) (jWr_4 _ (List.mem_of_getElem? (i := 14) rfl)) (jWr_80 _ (List.mem_of_getElem? (i := 1) rfl))) rfl rfl rfl (by decide +kernel) ⟨by rw [← hR]; exact Nat.le_of_ble_eq_true rfl, by rw [← hR]; exact Nat.le_of_ble_eq_true rfl⟩) ⟨fun a U g mk q => by obtain ⟨q0, q1, q2, qK, q10, q11, q12⟩ := q; exact ⟨q0, q1, q2, jG.calling g mk a qK, q10, q11, q12⟩, hh_33.recv (C := RX10) (T := TX10) (N := 11) hB12 rfl (by decide) hg_r0 hK, fun U hU hW => ⟨rfl, hU, hh_33.2.1, hG.step hW hU hh_33.1, hg_r0, (hh_33.2.2.1.sub (L1 := [(r0, 12, 3, .int tokens_7), (r0, 12, 4, .int qa_33)]) [2, 0] rfl), by first | omega | (refine ⟨?_, ?_, ?_, ?_, ?_⟩ <;> (first | omega | rfl | assumption | decide | exact Or.inl rfl | exact Or.inr rfl | (simp only; omega)))⟩⟩ rfl rfl hl.1 rfl (lv_room (Nat.le_of_ble_eq_true rfl)) dX10_isSentence_156 ⟨Nat.zero_le _, Nat.zero_le _⟩) hh_33.1 (fun q _ h => h) (fun q h => h) (fun r_37 u_36 t_36 H_36 locs_36 ht_36 hvm_36 hr_37 hb_36 hz_36 hk_36 hS_36 => ?_)
        obtain ⟨qa_36, rfl⟩ : ∃ z, z = u_36 := ⟨_, rfl⟩
        rw [ht_36] at hb_36
        obtain ⟨hb_361, hb_362, hb_363, hb_364, hb_365⟩ := hb_36
        have hh_36 : jSt (dC, dI) B base G0 G0 EX10_isSentence s.heap 0 0 [(r0, 12, 4, .int qa_36), (r0, 12, 5, .int w0_8), (r0, 12, 3, .int tokens_7), (r0, 12, 10, .int 0)] [] [] H_36 locs_36 := ((hh_33.call hb_361 hb_362 hb_363 hb_364 hS_36 rfl (L1 := [(r0, 12, 5, .int w0_8), (r0, 12, 3, .int tokens_7), (r0, 12, 10, .int 0)]) [1, 2, 4] rfl rfl (M1 := []) [] rfl rfl (I1 := []) [] rfl rfl).more hb_365)
        clear hh_33 ht_36 hvm_36 hz_36 hk_36 hS_36 hb_361 hb_362 hb_363 hb_364 hb_365
        obtain ⟨hr_37b, hr_37p⟩ := hr_37
        obtain ⟨hr_37p_0, hr_37p_1⟩ := hr_37p
        have hr_37' := jb_01 hr_37b
        refine lv_if_eq (tgt := 166) hx hb dX10_isSentence_159 (by decide) (fun c_38 => ?_) (fun c_38 => ?_)
        · skip
          have c_38' : r_37.toInt = 0 := jb_eq (rfl) ((by decide)) c_38
          first | (have hr_37p_1q := hr_37p_1.resolve_left (by omega); clear hr_37p_1) | (have hr_37p_1q := hr_37p_1.resolve_right (by omega); clear hr_37p_1) | skip
          refine lv_iconst (v := 0) hx hb dX10_isSentence_166 (by decide) ?_
          refine lv_istore_n (lv' := [(1, .int 0), (0, .ref r0)]) hx hb dX10_isSentence_167 rfl hl (by decide) rfl (fun ls hl => ?_)
          refine lv_goto (tgt := 294) hx hb dX10_isSentence_168 (by decide) ?_
          exact C294 0 qa_36 _ _ (hh_36.sub (L1 := [(r0, 12, 4, .int qa_36), (r0, 12, 5, .int w0_8), (r0, 12, 3, .int tokens_7)]) [0, 1, 2] rfl (M1 := []) [] rfl (I1 := []) [] rfl) (Or.inl rfl) (by first | omega | (refine ⟨?_, ?_⟩ <;> (first | omega | rfl | assumption | decide | exact Or.inl rfl | exact Or.inr rfl | (simp only; omega)))) _ (lv_sub hl [1, 0] rfl)
        · skip
          have c_38' : r_37.toInt ≠ 0 := jb_eq_n (rfl) ((by decide)) c_38
          first | (have hr_37p_1q := hr_37p_1.resolve_left (by omega); clear hr_37p_1) | (have hr_37p_1q := hr_37p_1.resolve_right (by omega); clear hr_37p_1) | skip
          refine lv_iconst (v := 1) hx hb dX10_isSentence_162 (by decide) ?_
          refine lv_goto (tgt := 167) hx hb dX10_isSentence_163 (by decide) ?_
          refine lv_istore_n (lv' := [(1, .int 1), (0, .ref r0)]) hx hb dX10_isSentence_167 rfl hl (by decide) rfl (fun ls hl => ?_)
          refine lv_goto (tgt := 294) hx hb dX10_isSentence_168 (by decide) ?_
          exact C294 1 qa_36 _ _ (hh_36.sub (L1 := [(r0, 12, 4, .int qa_36), (r0, 12, 5, .int w0_8), (r0, 12, 3, .int tokens_7)]) [0, 1, 2] rfl (M1 := []) [] rfl (I1 := []) [] rfl) (Or.inr rfl) (by first | omega | (refine ⟨?_, ?_⟩ <;> (first | omega | rfl | assumption | decide | exact Or.inl rfl | exact Or.inr rfl | (simp only; omega)))) _ (lv_sub hl [1, 0] rfl)
    rcases (by omega : (w0_8.toInt < 3 ∨ 21 < w0_8.toInt) ∨ w0_8.toInt = 3 ∨ w0_8.toInt = 4 ∨ w0_8.toInt = 5 ∨ w0_8.toInt = 6 ∨ w0_8.toInt = 7 ∨ w0_8.toInt = 8 ∨ w0_8.toInt = 9 ∨ w0_8.toInt = 10 ∨ w0_8.toInt = 11 ∨ w0_8.toInt = 12 ∨ w0_8.toInt = 13 ∨ w0_8.toInt = 14 ∨ w0_8.toInt = 15 ∨ w0_8.toInt = 16 ∨ w0_8.toInt = 17 ∨ w0_8.toInt = 18 ∨ w0_8.toInt = 19 ∨ w0_8.toInt = 20 ∨ w0_8.toInt = 21) with c_17 | c_17 | c_17 | c_17 | c_17 | c_17 | c_17 | c_17 | c_17 | c_17 | c_17 | c_17 | c_17 | c_17 | c_17 | c_17 | c_17 | c_17 | c_17 | c_17
    · refine lv_tableOut (tgt := 292) hx hb dX10_isSentence_56 c_17 (by decide) ?_
      refine lv_iconst (v := 0) hx hb dX10_isSentence_292 (by decide) ?_
      refine lv_istore_n (lv' := [(1, .int 0), (0, .ref r0)]) hx hb dX10_isSentence_293 rfl hl (by decide) rfl (fun ls hl => ?_)
      exact C294 0 1 _ _ (hh_9.sub (L1 := [(r0, 12, 4, .int 1), (r0, 12, 5, .int w0_8), (r0, 12, 3, .int tokens_7)]) [5, 0, 1] rfl (M1 := []) [] rfl (I1 := []) [] rfl) (Or.inl rfl) (by first | omega | (refine ⟨?_, ?_⟩ <;> (first | omega | rfl | assumption | decide | exact Or.inl rfl | exact Or.inr rfl | (simp only; omega)))) _ (lv_sub hl [1, 0] rfl)
    · refine lv_tableIn (off := 92) (tgt := 148) hx hb dX10_isSentence_56 (by omega) (by omega) (by rw [c_17]; rfl) (by decide) ?_
      exact C148  _ _ hh_9 (by first | omega | (refine ⟨?_, ?_⟩ <;> (first | omega | rfl | assumption | decide | exact Or.inl rfl | exact Or.inr rfl | (simp only; omega)))) _ (lv_sub hl [0] rfl)
    · refine lv_tableIn (off := 92) (tgt := 148) hx hb dX10_isSentence_56 (by omega) (by omega) (by rw [c_17]; rfl) (by decide) ?_
      exact C148  _ _ hh_9 (by first | omega | (refine ⟨?_, ?_⟩ <;> (first | omega | rfl | assumption | decide | exact Or.inl rfl | exact Or.inr rfl | (simp only; omega)))) _ (lv_sub hl [0] rfl)
    · refine lv_tableIn (off := 115) (tgt := 171) hx hb dX10_isSentence_56 (by omega) (by omega) (by rw [c_17]; rfl) (by decide) ?_
      exact C171  _ _ hh_9 (by first | omega | (refine ⟨?_, ?_⟩ <;> (first | omega | rfl | assumption | decide | exact Or.inl rfl | exact Or.inr rfl | (simp only; omega)))) _ (lv_sub hl [0] rfl)
    · refine lv_tableIn (off := 115) (tgt := 171) hx hb dX10_isSentence_56 (by omega) (by omega) (by rw [c_17]; rfl) (by decide) ?_
      exact C171  _ _ hh_9 (by first | omega | (refine ⟨?_, ?_⟩ <;> (first | omega | rfl | assumption | decide | exact Or.inl rfl | exact Or.inr rfl | (simp only; omega)))) _ (lv_sub hl [0] rfl)
    · refine lv_tableIn (off := 149) (tgt := 205) hx hb dX10_isSentence_56 (by omega) (by omega) (by rw [c_17]; rfl) (by decide) ?_
      exact C205  _ _ hh_9 (by first | omega | (refine ⟨?_, ?_⟩ <;> (first | omega | rfl | assumption | decide | exact Or.inl rfl | exact Or.inr rfl | (simp only; omega)))) _ (lv_sub hl [0] rfl)
    · refine lv_tableIn (off := 149) (tgt := 205) hx hb dX10_isSentence_56 (by omega) (by omega) (by rw [c_17]; rfl) (by decide) ?_
      exact C205  _ _ hh_9 (by first | omega | (refine ⟨?_, ?_⟩ <;> (first | omega | rfl | assumption | decide | exact Or.inl rfl | exact Or.inr rfl | (simp only; omega)))) _ (lv_sub hl [0] rfl)
    · refine lv_tableIn (off := 154) (tgt := 210) hx hb dX10_isSentence_56 (by omega) (by omega) (by rw [c_17]; rfl) (by decide) ?_
      exact C210  _ _ hh_9 (by first | omega | (refine ⟨?_, ?_⟩ <;> (first | omega | rfl | assumption | decide | exact Or.inl rfl | exact Or.inr rfl | (simp only; omega)))) _ (lv_sub hl [0] rfl)
    · refine lv_tableIn (off := 154) (tgt := 210) hx hb dX10_isSentence_56 (by omega) (by omega) (by rw [c_17]; rfl) (by decide) ?_
      exact C210  _ _ hh_9 (by first | omega | (refine ⟨?_, ?_⟩ <;> (first | omega | rfl | assumption | decide | exact Or.inl rfl | exact Or.inr rfl | (simp only; omega)))) _ (lv_sub hl [0] rfl)
    · refine lv_tableIn (off := 154) (tgt := 210) hx hb dX10_isSentence_56 (by omega) (by omega) (by rw [c_17]; rfl) (by decide) ?_
      exact C210  _ _ hh_9 (by first | omega | (refine ⟨?_, ?_⟩ <;> (first | omega | rfl | assumption | decide | exact Or.inl rfl | exact Or.inr rfl | (simp only; omega)))) _ (lv_sub hl [0] rfl)
    · refine lv_tableIn (off := 149) (tgt := 205) hx hb dX10_isSentence_56 (by omega) (by omega) (by rw [c_17]; rfl) (by decide) ?_
      exact C205  _ _ hh_9 (by first | omega | (refine ⟨?_, ?_⟩ <;> (first | omega | rfl | assumption | decide | exact Or.inl rfl | exact Or.inr rfl | (simp only; omega)))) _ (lv_sub hl [0] rfl)
    · refine lv_tableIn (off := 149) (tgt := 205) hx hb dX10_isSentence_56 (by omega) (by omega) (by rw [c_17]; rfl) (by decide) ?_
      exact C205  _ _ hh_9 (by first | omega | (refine ⟨?_, ?_⟩ <;> (first | omega | rfl | assumption | decide | exact Or.inl rfl | exact Or.inr rfl | (simp only; omega)))) _ (lv_sub hl [0] rfl)
    · refine lv_tableIn (off := 149) (tgt := 205) hx hb dX10_isSentence_56 (by omega) (by omega) (by rw [c_17]; rfl) (by decide) ?_
      exact C205  _ _ hh_9 (by first | omega | (refine ⟨?_, ?_⟩ <;> (first | omega | rfl | assumption | decide | exact Or.inl rfl | exact Or.inr rfl | (simp only; omega)))) _ (lv_sub hl [0] rfl)
    · refine lv_tableIn (off := 162) (tgt := 218) hx hb dX10_isSentence_56 (by omega) (by omega) (by rw [c_17]; rfl) (by decide) ?_
      refine lv_aload_n hx hb dX10_isSentence_218 rfl (lv_at hl 0 rfl) ?_
      refine va_calli (A0 := jA base) (H0 := s.heap) (va_runV (As := []) (rest := []) ⟨hx, hb, hml, hown, hts⟩ (uX10_isName l dC dI ca base B hB hAp hB12 hB101 G0 H_9 r0 tokens_7 1) (cwV 0 hts (jgV (jWr_79 _ (List.mem_of_getElem? (i := 10) rfl)) (jWr_79 _ (List.mem_of_getElem? (i := 11) rfl)) (jWr_79 _ (List.mem_of_getElem? (i := 12) rfl)) (jWr_4 _ (List.mem_of_getElem? (i := 14) rfl)) (jWr_79 _ (List.mem_of_getElem? (i := 13) rfl))) rfl rfl rfl (by decide +kernel) ⟨by rw [← hR]; exact Nat.le_of_ble_eq_true rfl, by rw [← hR]; exact Nat.le_of_ble_eq_true rfl⟩) ⟨fun a U g mk q => by obtain ⟨q0, q1, q2, qK, q10, q11, q12⟩ := q; exact ⟨q0, q1, q2, jG.calling g mk a qK, q10, q11, q12⟩, hh_9.recv (C := RX10) (T := TX10) (N := 11) hB12 rfl (by decide) hg_r0 hK, fun U hU hW => ⟨rfl, hU, hh_9.2.1, hG.step hW hU hh_9.1, hg_r0, (hh_9.2.2.1.sub (L1 := [(r0, 12, 3, .int tokens_7), (r0, 12, 4, .int 1)]) [1, 5] rfl), by first | omega | (refine ⟨?_, ?_, ?_, ?_, ?_⟩ <;> (first | omega | rfl | assumption | decide | exact Or.inl rfl | exact Or.inr rfl | (simp only; omega)))⟩⟩ rfl rfl hl.1 rfl (lv_room (Nat.le_of_ble_eq_true rfl)) dX10_isSentence_219 ⟨Nat.zero_le _, Nat.zero_le _⟩) hh_9.1 (fun q _ h => h) (fun q h => h) (fun r_40 u_39 t_39 H_39 locs_39 ht_39 hvm_39 hr_40 hb_39 hz_39 hk_39 hS_39 => ?_)
      obtain ⟨qa_39, rfl⟩ : ∃ z, z = u_39 := ⟨_, rfl⟩
      rw [ht_39] at hb_39
      obtain ⟨hb_391, hb_392, hb_393, hb_394, hb_395⟩ := hb_39
      have hh_39 : jSt (dC, dI) B base G0 G0 EX10_isSentence s.heap 0 0 [(r0, 12, 4, .int qa_39), (r0, 12, 5, .int w0_8), (r0, 12, 3, .int tokens_7), (r0, 12, 8, .int 0), (r0, 12, 10, .int 0)] [] [] H_39 locs_39 := ((hh_9.call hb_391 hb_392 hb_393 hb_394 hS_39 rfl (L1 := [(r0, 12, 5, .int w0_8), (r0, 12, 3, .int tokens_7), (r0, 12, 8, .int 0), (r0, 12, 10, .int 0)]) [0, 1, 2, 3] rfl rfl (M1 := []) [] rfl rfl (I1 := []) [] rfl rfl).more hb_395)
      clear hh_9 ht_39 hvm_39 hz_39 hk_39 hS_39 hb_391 hb_392 hb_393 hb_394 hb_395
      obtain ⟨hr_40b, hr_40p⟩ := hr_40
      obtain ⟨hr_40p_0, hr_40p_1⟩ := hr_40p
      have hr_40' := jb_01 hr_40b
      refine lv_if_eq (tgt := 243) hx hb dX10_isSentence_222 (by decide) (fun c_41 => ?_) (fun c_41 => ?_)
      · skip
        have c_41' : r_40.toInt = 0 := jb_eq (rfl) ((by decide)) c_41
        first | (have hr_40p_1q := hr_40p_1.resolve_left (by omega); clear hr_40p_1) | (have hr_40p_1q := hr_40p_1.resolve_right (by omega); clear hr_40p_1) | skip
        refine lv_iconst (v := 0) hx hb dX10_isSentence_243 (by decide) ?_
        refine lv_istore_n (lv' := [(1, .int 0), (0, .ref r0)]) hx hb dX10_isSentence_244 rfl hl (by decide) rfl (fun ls hl => ?_)
        refine lv_goto (tgt := 294) hx hb dX10_isSentence_245 (by decide) ?_
        exact C294 0 qa_39 _ _ (hh_39.sub (L1 := [(r0, 12, 4, .int qa_39), (r0, 12, 5, .int w0_8), (r0, 12, 3, .int tokens_7)]) [0, 1, 2] rfl (M1 := []) [] rfl (I1 := []) [] rfl) (Or.inl rfl) (by first | omega | (refine ⟨?_, ?_⟩ <;> (first | omega | rfl | assumption | decide | exact Or.inl rfl | exact Or.inr rfl | (simp only; omega)))) _ (lv_sub hl [1, 0] rfl)
      · skip
        have c_41' : r_40.toInt ≠ 0 := jb_eq_n (rfl) ((by decide)) c_41
        first | (have hr_40p_1q := hr_40p_1.resolve_left (by omega); clear hr_40p_1) | (have hr_40p_1q := hr_40p_1.resolve_right (by omega); clear hr_40p_1) | skip
        refine lv_aload_n hx hb dX10_isSentence_225 rfl (lv_at hl 0 rfl) ?_
        refine va_calli (A0 := jA base) (H0 := s.heap) (va_runV (As := []) (rest := []) ⟨hx, hb, hml, hown, hts⟩ (uX10_isName l dC dI ca base B hB hAp hB12 hB101 G0 H_39 r0 tokens_7 qa_39) (cwV 0 hts (jgV (jWr_79 _ (List.mem_of_getElem? (i := 10) rfl)) (jWr_79 _ (List.mem_of_getElem? (i := 11) rfl)) (jWr_79 _ (List.mem_of_getElem? (i := 12) rfl)) (jWr_4 _ (List.mem_of_getElem? (i := 14) rfl)) (jWr_79 _ (List.mem_of_getElem? (i := 13) rfl))) rfl rfl rfl (by decide +kernel) ⟨by rw [← hR]; exact Nat.le_of_ble_eq_true rfl, by rw [← hR]; exact Nat.le_of_ble_eq_true rfl⟩) ⟨fun a U g mk q => by obtain ⟨q0, q1, q2, qK, q10, q11, q12⟩ := q; exact ⟨q0, q1, q2, jG.calling g mk a qK, q10, q11, q12⟩, hh_39.recv (C := RX10) (T := TX10) (N := 11) hB12 rfl (by decide) hg_r0 hK, fun U hU hW => ⟨rfl, hU, hh_39.2.1, hG.step hW hU hh_39.1, hg_r0, (hh_39.2.2.1.sub (L1 := [(r0, 12, 3, .int tokens_7), (r0, 12, 4, .int qa_39)]) [2, 0] rfl), by first | omega | (refine ⟨?_, ?_, ?_, ?_, ?_⟩ <;> (first | omega | rfl | assumption | decide | exact Or.inl rfl | exact Or.inr rfl | (simp only; omega)))⟩⟩ rfl rfl hl.1 rfl (lv_room (Nat.le_of_ble_eq_true rfl)) dX10_isSentence_226 ⟨Nat.zero_le _, Nat.zero_le _⟩) hh_39.1 (fun q _ h => h) (fun q h => h) (fun r_43 u_42 t_42 H_42 locs_42 ht_42 hvm_42 hr_43 hb_42 hz_42 hk_42 hS_42 => ?_)
        obtain ⟨qa_42, rfl⟩ : ∃ z, z = u_42 := ⟨_, rfl⟩
        rw [ht_42] at hb_42
        obtain ⟨hb_421, hb_422, hb_423, hb_424, hb_425⟩ := hb_42
        have hh_42 : jSt (dC, dI) B base G0 G0 EX10_isSentence s.heap 0 0 [(r0, 12, 4, .int qa_42), (r0, 12, 5, .int w0_8), (r0, 12, 3, .int tokens_7), (r0, 12, 8, .int 0), (r0, 12, 10, .int 0)] [] [] H_42 locs_42 := ((hh_39.call hb_421 hb_422 hb_423 hb_424 hS_42 rfl (L1 := [(r0, 12, 5, .int w0_8), (r0, 12, 3, .int tokens_7), (r0, 12, 8, .int 0), (r0, 12, 10, .int 0)]) [1, 2, 3, 4] rfl rfl (M1 := []) [] rfl rfl (I1 := []) [] rfl rfl).more hb_425)
        clear hh_39 ht_42 hvm_42 hz_42 hk_42 hS_42 hb_421 hb_422 hb_423 hb_424 hb_425
        obtain ⟨hr_43b, hr_43p⟩ := hr_43
        obtain ⟨hr_43p_0, hr_43p_1⟩ := hr_43p
        have hr_43' := jb_01 hr_43b
        refine lv_if_eq (tgt := 243) hx hb dX10_isSentence_229 (by decide) (fun c_44 => ?_) (fun c_44 => ?_)
        · skip
          have c_44' : r_43.toInt = 0 := jb_eq (rfl) ((by decide)) c_44
          first | (have hr_43p_1q := hr_43p_1.resolve_left (by omega); clear hr_43p_1) | (have hr_43p_1q := hr_43p_1.resolve_right (by omega); clear hr_43p_1) | skip
          refine lv_iconst (v := 0) hx hb dX10_isSentence_243 (by decide) ?_
          refine lv_istore_n (lv' := [(1, .int 0), (0, .ref r0)]) hx hb dX10_isSentence_244 rfl hl (by decide) rfl (fun ls hl => ?_)
          refine lv_goto (tgt := 294) hx hb dX10_isSentence_245 (by decide) ?_
          exact C294 0 qa_42 _ _ (hh_42.sub (L1 := [(r0, 12, 4, .int qa_42), (r0, 12, 5, .int w0_8), (r0, 12, 3, .int tokens_7)]) [0, 1, 2] rfl (M1 := []) [] rfl (I1 := []) [] rfl) (Or.inl rfl) (by first | omega | (refine ⟨?_, ?_⟩ <;> (first | omega | rfl | assumption | decide | exact Or.inl rfl | exact Or.inr rfl | (simp only; omega)))) _ (lv_sub hl [1, 0] rfl)
        · skip
          have c_44' : r_43.toInt ≠ 0 := jb_eq_n (rfl) ((by decide)) c_44
          first | (have hr_43p_1q := hr_43p_1.resolve_left (by omega); clear hr_43p_1) | (have hr_43p_1q := hr_43p_1.resolve_right (by omega); clear hr_43p_1) | skip
          refine lv_aload_n hx hb dX10_isSentence_232 rfl (lv_at hl 0 rfl) ?_
          refine va_calli (A0 := jA base) (H0 := s.heap) (va_runV (As := []) (rest := []) ⟨hx, hb, hml, hown, hts⟩ (uX10_isName l dC dI ca base B hB hAp hB12 hB101 G0 H_42 r0 tokens_7 qa_42) (cwV 0 hts (jgV (jWr_79 _ (List.mem_of_getElem? (i := 10) rfl)) (jWr_79 _ (List.mem_of_getElem? (i := 11) rfl)) (jWr_79 _ (List.mem_of_getElem? (i := 12) rfl)) (jWr_4 _ (List.mem_of_getElem? (i := 14) rfl)) (jWr_79 _ (List.mem_of_getElem? (i := 13) rfl))) rfl rfl rfl (by decide +kernel) ⟨by rw [← hR]; exact Nat.le_of_ble_eq_true rfl, by rw [← hR]; exact Nat.le_of_ble_eq_true rfl⟩) ⟨fun a U g mk q => by obtain ⟨q0, q1, q2, qK, q10, q11, q12⟩ := q; exact ⟨q0, q1, q2, jG.calling g mk a qK, q10, q11, q12⟩, hh_42.recv (C := RX10) (T := TX10) (N := 11) hB12 rfl (by decide) hg_r0 hK, fun U hU hW => ⟨rfl, hU, hh_42.2.1, hG.step hW hU hh_42.1, hg_r0, (hh_42.2.2.1.sub (L1 := [(r0, 12, 3, .int tokens_7), (r0, 12, 4, .int qa_42)]) [2, 0] rfl), by first | omega | (refine ⟨?_, ?_, ?_, ?_, ?_⟩ <;> (first | omega | rfl | assumption | decide | exact Or.inl rfl | exact Or.inr rfl | (simp only; omega)))⟩⟩ rfl rfl hl.1 rfl (lv_room (Nat.le_of_ble_eq_true rfl)) dX10_isSentence_233 ⟨Nat.zero_le _, Nat.zero_le _⟩) hh_42.1 (fun q _ h => h) (fun q h => h) (fun r_46 u_45 t_45 H_45 locs_45 ht_45 hvm_45 hr_46 hb_45 hz_45 hk_45 hS_45 => ?_)
          obtain ⟨qa_45, rfl⟩ : ∃ z, z = u_45 := ⟨_, rfl⟩
          rw [ht_45] at hb_45
          obtain ⟨hb_451, hb_452, hb_453, hb_454, hb_455⟩ := hb_45
          have hh_45 : jSt (dC, dI) B base G0 G0 EX10_isSentence s.heap 0 0 [(r0, 12, 4, .int qa_45), (r0, 12, 5, .int w0_8), (r0, 12, 3, .int tokens_7), (r0, 12, 8, .int 0), (r0, 12, 10, .int 0)] [] [] H_45 locs_45 := ((hh_42.call hb_451 hb_452 hb_453 hb_454 hS_45 rfl (L1 := [(r0, 12, 5, .int w0_8), (r0, 12, 3, .int tokens_7), (r0, 12, 8, .int 0), (r0, 12, 10, .int 0)]) [1, 2, 3, 4] rfl rfl (M1 := []) [] rfl rfl (I1 := []) [] rfl rfl).more hb_455)
          clear hh_42 ht_45 hvm_45 hz_45 hk_45 hS_45 hb_451 hb_452 hb_453 hb_454 hb_455
          obtain ⟨hr_46b, hr_46p⟩ := hr_46
          obtain ⟨hr_46p_0, hr_46p_1⟩ := hr_46p
          have hr_46' := jb_01 hr_46b
          refine lv_if_eq (tgt := 243) hx hb dX10_isSentence_236 (by decide) (fun c_47 => ?_) (fun c_47 => ?_)
          · skip
            have c_47' : r_46.toInt = 0 := jb_eq (rfl) ((by decide)) c_47
            first | (have hr_46p_1q := hr_46p_1.resolve_left (by omega); clear hr_46p_1) | (have hr_46p_1q := hr_46p_1.resolve_right (by omega); clear hr_46p_1) | skip
            refine lv_iconst (v := 0) hx hb dX10_isSentence_243 (by decide) ?_
            refine lv_istore_n (lv' := [(1, .int 0), (0, .ref r0)]) hx hb dX10_isSentence_244 rfl hl (by decide) rfl (fun ls hl => ?_)
            refine lv_goto (tgt := 294) hx hb dX10_isSentence_245 (by decide) ?_
            exact C294 0 qa_45 _ _ (hh_45.sub (L1 := [(r0, 12, 4, .int qa_45), (r0, 12, 5, .int w0_8), (r0, 12, 3, .int tokens_7)]) [0, 1, 2] rfl (M1 := []) [] rfl (I1 := []) [] rfl) (Or.inl rfl) (by first | omega | (refine ⟨?_, ?_⟩ <;> (first | omega | rfl | assumption | decide | exact Or.inl rfl | exact Or.inr rfl | (simp only; omega)))) _ (lv_sub hl [1, 0] rfl)
          · skip
            have c_47' : r_46.toInt ≠ 0 := jb_eq_n (rfl) ((by decide)) c_47
            first | (have hr_46p_1q := hr_46p_1.resolve_left (by omega); clear hr_46p_1) | (have hr_46p_1q := hr_46p_1.resolve_right (by omega); clear hr_46p_1) | skip
            refine lv_iconst (v := 1) hx hb dX10_isSentence_239 (by decide) ?_
            refine lv_goto (tgt := 244) hx hb dX10_isSentence_240 (by decide) ?_
            refine lv_istore_n (lv' := [(1, .int 1), (0, .ref r0)]) hx hb dX10_isSentence_244 rfl hl (by decide) rfl (fun ls hl => ?_)
            refine lv_goto (tgt := 294) hx hb dX10_isSentence_245 (by decide) ?_
            exact C294 1 qa_45 _ _ (hh_45.sub (L1 := [(r0, 12, 4, .int qa_45), (r0, 12, 5, .int w0_8), (r0, 12, 3, .int tokens_7)]) [0, 1, 2] rfl (M1 := []) [] rfl (I1 := []) [] rfl) (Or.inr rfl) (by first | omega | (refine ⟨?_, ?_⟩ <;> (first | omega | rfl | assumption | decide | exact Or.inl rfl | exact Or.inr rfl | (simp only; omega)))) _ (lv_sub hl [1, 0] rfl)
    · refine lv_tableIn (off := 154) (tgt := 210) hx hb dX10_isSentence_56 (by omega) (by omega) (by rw [c_17]; rfl) (by decide) ?_
      exact C210  _ _ hh_9 (by first | omega | (refine ⟨?_, ?_⟩ <;> (first | omega | rfl | assumption | decide | exact Or.inl rfl | exact Or.inr rfl | (simp only; omega)))) _ (lv_sub hl [0] rfl)
    · refine lv_tableIn (off := 192) (tgt := 248) hx hb dX10_isSentence_56 (by omega) (by omega) (by rw [c_17]; rfl) (by decide) ?_
      refine lv_aload_n hx hb dX10_isSentence_248 rfl (lv_at hl 0 rfl) ?_
      refine lv_bipush (v := 8) hx hb dX10_isSentence_249 (by decide) ?_
      refine lv_iconst (v := 0) hx hb dX10_isSentence_251 (by decide) ?_
      refine va_calli (A0 := jA base) (H0 := s.heap) (va_runV (As := [.int 8, .int 0]) (rest := []) ⟨hx, hb, hml, hown, hts⟩ (aX10_isTerm l dC dI ca base B hB hAp hB12 hB101 12 G0 H_9 r0 8 0 tokens_7 1 0) (cwV 2 hts (jgV (jWr_81 _ (List.mem_of_getElem? (i := 0) rfl)) (jWr_81 _ (List.mem_of_getElem? (i := 1) rfl)) (jWr_81 _ (List.mem_of_getElem? (i := 2) rfl)) (jWr_4 _ (List.mem_of_getElem? (i := 14) rfl)) (jWr_81 _ (List.mem_of_getElem? (i := 3) rfl))) rfl rfl rfl (by decide +kernel) ⟨by rw [← hR]; exact Nat.le_of_ble_eq_true rfl, by rw [← hR]; exact Nat.le_of_ble_eq_true rfl⟩) ⟨fun a U g mk q => by obtain ⟨q0, q1, q2, qK, q10, q11, q12⟩ := q; exact ⟨q0, q1, q2, jG.calling g mk a qK, q10, q11, q12⟩, hh_9.recv (C := RX10) (T := TX10) (N := 11) hB12 rfl (by decide) hg_r0 hK, fun U hU hW => ⟨rfl, hU, hh_9.2.1, hG.step hW hU hh_9.1, hg_r0, (hh_9.2.2.1.sub (L1 := [(r0, 12, 3, .int tokens_7), (r0, 12, 4, .int 1), (r0, 12, 10, .int 0)]) [1, 5, 3] rfl), by first | omega | (refine ⟨?_, ?_, ?_, ?_, ?_, ?_, ?_, ?_, ?_⟩ <;> (first | omega | rfl | assumption | decide | exact Or.inl rfl | exact Or.inr rfl | (simp only; omega)))⟩⟩ rfl rfl hl.1 rfl (lv_room (Nat.le_of_ble_eq_true rfl)) dX10_isSentence_252 ⟨Nat.zero_le _, Nat.zero_le _⟩) hh_9.1 (fun q _ h => h) (fun q h => h) (fun r_49 u_48 t_48 H_48 locs_48 ht_48 hvm_48 hr_49 hb_48 hz_48 hk_48 hS_48 => ?_)
      obtain ⟨qa_48, qc_48⟩ := u_48
      rw [ht_48] at hb_48
      obtain ⟨hb_481, hb_482, hb_483, hb_484, hb_485⟩ := hb_48
      have hh_48 : jSt (dC, dI) B base G0 G0 EX10_isSentence s.heap 0 0 [(r0, 12, 4, .int qa_48), (r0, 12, 10, .int qc_48), (r0, 12, 5, .int w0_8), (r0, 12, 3, .int tokens_7), (r0, 12, 8, .int 0), (r0, 12, 7, .int 0)] [] [] H_48 locs_48 := ((hh_9.call hb_481 hb_482 hb_483 hb_484 hS_48 rfl (L1 := [(r0, 12, 5, .int w0_8), (r0, 12, 3, .int tokens_7), (r0, 12, 8, .int 0), (r0, 12, 7, .int 0)]) [0, 1, 2, 4] rfl rfl (M1 := []) [] rfl rfl (I1 := []) [] rfl rfl).more hb_485)
      clear hh_9 ht_48 hvm_48 hz_48 hk_48 hS_48 hb_481 hb_482 hb_483 hb_484 hb_485
      try simp only at hr_49
      obtain ⟨hr_49b, hr_49p⟩ := hr_49
      obtain ⟨hr_49p_0, hr_49p_1, hr_49p_2, hr_49p_3, hr_49p_4⟩ := hr_49p
      have hr_49' := jb_01 hr_49b
      refine lv_istore_n (lv' := [(1, .int r_49), (0, .ref r0)]) hx hb dX10_isSentence_255 rfl hl (by decide) rfl (fun ls hl => ?_)
      refine lv_goto (tgt := 294) hx hb dX10_isSentence_256 (by decide) ?_
      exact C294 r_49 qa_48 _ _ (hh_48.sub (L1 := [(r0, 12, 4, .int qa_48), (r0, 12, 5, .int w0_8), (r0, 12, 3, .int tokens_7)]) [0, 2, 3] rfl (M1 := []) [] rfl (I1 := []) [] rfl) (hr_49b) (by first | omega | (refine ⟨?_, ?_⟩ <;> (first | omega | rfl | assumption | decide | exact Or.inl rfl | exact Or.inr rfl | (simp only; omega)))) _ (lv_sub hl [1, 0] rfl)
    · refine lv_tableIn (off := 203) (tgt := 259) hx hb dX10_isSentence_56 (by omega) (by omega) (by rw [c_17]; rfl) (by decide) ?_
      refine lv_aload_n hx hb dX10_isSentence_259 rfl (lv_at hl 0 rfl) ?_
      refine va_calli (A0 := jA base) (H0 := s.heap) (va_runV (As := []) (rest := []) ⟨hx, hb, hml, hown, hts⟩ (uX10_isName l dC dI ca base B hB hAp hB12 hB101 G0 H_9 r0 tokens_7 1) (cwV 0 hts (jgV (jWr_79 _ (List.mem_of_getElem? (i := 10) rfl)) (jWr_79 _ (List.mem_of_getElem? (i := 11) rfl)) (jWr_79 _ (List.mem_of_getElem? (i := 12) rfl)) (jWr_4 _ (List.mem_of_getElem? (i := 14) rfl)) (jWr_79 _ (List.mem_of_getElem? (i := 13) rfl))) rfl rfl rfl (by decide +kernel) ⟨by rw [← hR]; exact Nat.le_of_ble_eq_true rfl, by rw [← hR]; exact Nat.le_of_ble_eq_true rfl⟩) ⟨fun a U g mk q => by obtain ⟨q0, q1, q2, qK, q10, q11, q12⟩ := q; exact ⟨q0, q1, q2, jG.calling g mk a qK, q10, q11, q12⟩, hh_9.recv (C := RX10) (T := TX10) (N := 11) hB12 rfl (by decide) hg_r0 hK, fun U hU hW => ⟨rfl, hU, hh_9.2.1, hG.step hW hU hh_9.1, hg_r0, (hh_9.2.2.1.sub (L1 := [(r0, 12, 3, .int tokens_7), (r0, 12, 4, .int 1)]) [1, 5] rfl), by first | omega | (refine ⟨?_, ?_, ?_, ?_, ?_⟩ <;> (first | omega | rfl | assumption | decide | exact Or.inl rfl | exact Or.inr rfl | (simp only; omega)))⟩⟩ rfl rfl hl.1 rfl (lv_room (Nat.le_of_ble_eq_true rfl)) dX10_isSentence_260 ⟨Nat.zero_le _, Nat.zero_le _⟩) hh_9.1 (fun q _ h => h) (fun q h => h) (fun r_51 u_50 t_50 H_50 locs_50 ht_50 hvm_50 hr_51 hb_50 hz_50 hk_50 hS_50 => ?_)
      obtain ⟨qa_50, rfl⟩ : ∃ z, z = u_50 := ⟨_, rfl⟩
      rw [ht_50] at hb_50
      obtain ⟨hb_501, hb_502, hb_503, hb_504, hb_505⟩ := hb_50
      have hh_50 : jSt (dC, dI) B base G0 G0 EX10_isSentence s.heap 0 0 [(r0, 12, 4, .int qa_50), (r0, 12, 5, .int w0_8), (r0, 12, 3, .int tokens_7), (r0, 12, 8, .int 0), (r0, 12, 10, .int 0)] [] [] H_50 locs_50 := ((hh_9.call hb_501 hb_502 hb_503 hb_504 hS_50 rfl (L1 := [(r0, 12, 5, .int w0_8), (r0, 12, 3, .int tokens_7), (r0, 12, 8, .int 0), (r0, 12, 10, .int 0)]) [0, 1, 2, 3] rfl rfl (M1 := []) [] rfl rfl (I1 := []) [] rfl rfl).more hb_505)
      clear hh_9 ht_50 hvm_50 hz_50 hk_50 hS_50 hb_501 hb_502 hb_503 hb_504 hb_505
      obtain ⟨hr_51b, hr_51p⟩ := hr_51
      obtain ⟨hr_51p_0, hr_51p_1⟩ := hr_51p
      have hr_51' := jb_01 hr_51b
      refine lv_if_eq (tgt := 287) hx hb dX10_isSentence_263 (by decide) (fun c_52 => ?_) (fun c_52 => ?_)
      · skip
        have c_52' : r_51.toInt = 0 := jb_eq (rfl) ((by decide)) c_52
        first | (have hr_51p_1q := hr_51p_1.resolve_left (by omega); clear hr_51p_1) | (have hr_51p_1q := hr_51p_1.resolve_right (by omega); clear hr_51p_1) | skip
        refine lv_iconst (v := 0) hx hb dX10_isSentence_287 (by decide) ?_
        refine lv_istore_n (lv' := [(1, .int 0), (0, .ref r0)]) hx hb dX10_isSentence_288 rfl hl (by decide) rfl (fun ls hl => ?_)
        refine lv_goto (tgt := 294) hx hb dX10_isSentence_289 (by decide) ?_
        exact C294 0 qa_50 _ _ (hh_50.sub (L1 := [(r0, 12, 4, .int qa_50), (r0, 12, 5, .int w0_8), (r0, 12, 3, .int tokens_7)]) [0, 1, 2] rfl (M1 := []) [] rfl (I1 := []) [] rfl) (Or.inl rfl) (by first | omega | (refine ⟨?_, ?_⟩ <;> (first | omega | rfl | assumption | decide | exact Or.inl rfl | exact Or.inr rfl | (simp only; omega)))) _ (lv_sub hl [1, 0] rfl)
      · skip
        have c_52' : r_51.toInt ≠ 0 := jb_eq_n (rfl) ((by decide)) c_52
        first | (have hr_51p_1q := hr_51p_1.resolve_left (by omega); clear hr_51p_1) | (have hr_51p_1q := hr_51p_1.resolve_right (by omega); clear hr_51p_1) | skip
        refine lv_aload_n hx hb dX10_isSentence_266 rfl (lv_at hl 0 rfl) ?_
        refine lv_bipush (v := 8) hx hb dX10_isSentence_267 (by decide) ?_
        refine lv_iconst (v := 0) hx hb dX10_isSentence_269 (by decide) ?_
        refine va_calli (A0 := jA base) (H0 := s.heap) (va_runV (As := [.int 8, .int 0]) (rest := []) ⟨hx, hb, hml, hown, hts⟩ (aX10_isTerm l dC dI ca base B hB hAp hB12 hB101 12 G0 H_50 r0 8 0 tokens_7 qa_50 0) (cwV 2 hts (jgV (jWr_81 _ (List.mem_of_getElem? (i := 0) rfl)) (jWr_81 _ (List.mem_of_getElem? (i := 1) rfl)) (jWr_81 _ (List.mem_of_getElem? (i := 2) rfl)) (jWr_4 _ (List.mem_of_getElem? (i := 14) rfl)) (jWr_81 _ (List.mem_of_getElem? (i := 3) rfl))) rfl rfl rfl (by decide +kernel) ⟨by rw [← hR]; exact Nat.le_of_ble_eq_true rfl, by rw [← hR]; exact Nat.le_of_ble_eq_true rfl⟩) ⟨fun a U g mk q => by obtain ⟨q0, q1, q2, qK, q10, q11, q12⟩ := q; exact ⟨q0, q1, q2, jG.calling g mk a qK, q10, q11, q12⟩, hh_50.recv (C := RX10) (T := TX10) (N := 11) hB12 rfl (by decide) hg_r0 hK, fun U hU hW => ⟨rfl, hU, hh_50.2.1, hG.step hW hU hh_50.1, hg_r0, (hh_50.2.2.1.sub (L1 := [(r0, 12, 3, .int tokens_7), (r0, 12, 4, .int qa_50), (r0, 12, 10, .int 0)]) [2, 0, 4] rfl), by first | omega | (refine ⟨?_, ?_, ?_, ?_, ?_, ?_, ?_, ?_, ?_⟩ <;> (first | omega | rfl | assumption | decide | exact Or.inl rfl | exact Or.inr rfl | (simp only; omega)))⟩⟩ rfl rfl hl.1 rfl (lv_room (Nat.le_of_ble_eq_true rfl)) dX10_isSentence_270 ⟨Nat.zero_le _, Nat.zero_le _⟩) hh_50.1 (fun q _ h => h) (fun q h => h) (fun r_54 u_53 t_53 H_53 locs_53 ht_53 hvm_53 hr_54 hb_53 hz_53 hk_53 hS_53 => ?_)
        obtain ⟨qa_53, qc_53⟩ := u_53
        rw [ht_53] at hb_53
        obtain ⟨hb_531, hb_532, hb_533, hb_534, hb_535⟩ := hb_53
        have hh_53 : jSt (dC, dI) B base G0 G0 EX10_isSentence s.heap 0 0 [(r0, 12, 4, .int qa_53), (r0, 12, 10, .int qc_53), (r0, 12, 5, .int w0_8), (r0, 12, 3, .int tokens_7), (r0, 12, 8, .int 0)] [] [] H_53 locs_53 := ((hh_50.call hb_531 hb_532 hb_533 hb_534 hS_53 rfl (L1 := [(r0, 12, 5, .int w0_8), (r0, 12, 3, .int tokens_7), (r0, 12, 8, .int 0)]) [1, 2, 3] rfl rfl (M1 := []) [] rfl rfl (I1 := []) [] rfl rfl).more hb_535)
        clear hh_50 ht_53 hvm_53 hz_53 hk_53 hS_53 hb_531 hb_532 hb_533 hb_534 hb_535
        try simp only at hr_54
        obtain ⟨hr_54b, hr_54p⟩ := hr_54
        obtain ⟨hr_54p_0, hr_54p_1, hr_54p_2, hr_54p_3, hr_54p_4⟩ := hr_54p
        have hr_54' := jb_01 hr_54b
        refine lv_if_eq (tgt := 287) hx hb dX10_isSentence_273 (by decide) (fun c_55 => ?_) (fun c_55 => ?_)
        · skip
          have c_55' : r_54.toInt = 0 := jb_eq (rfl) ((by decide)) c_55
          first | (have hr_54p_4q := hr_54p_4.resolve_left (by omega); clear hr_54p_4) | (have hr_54p_4q := hr_54p_4.resolve_right (by omega); clear hr_54p_4) | skip
          refine lv_iconst (v := 0) hx hb dX10_isSentence_287 (by decide) ?_
          refine lv_istore_n (lv' := [(1, .int 0), (0, .ref r0)]) hx hb dX10_isSentence_288 rfl hl (by decide) rfl (fun ls hl => ?_)
          refine lv_goto (tgt := 294) hx hb dX10_isSentence_289 (by decide) ?_
          exact C294 0 qa_53 _ _ (hh_53.sub (L1 := [(r0, 12, 4, .int qa_53), (r0, 12, 5, .int w0_8), (r0, 12, 3, .int tokens_7)]) [0, 2, 3] rfl (M1 := []) [] rfl (I1 := []) [] rfl) (Or.inl rfl) (by first | omega | (refine ⟨?_, ?_⟩ <;> (first | omega | rfl | assumption | decide | exact Or.inl rfl | exact Or.inr rfl | (simp only; omega)))) _ (lv_sub hl [1, 0] rfl)
        · skip
          have c_55' : r_54.toInt ≠ 0 := jb_eq_n (rfl) ((by decide)) c_55
          first | (have hr_54p_4q := hr_54p_4.resolve_left (by omega); clear hr_54p_4) | (have hr_54p_4q := hr_54p_4.resolve_right (by omega); clear hr_54p_4) | skip
          refine lv_aload_n hx hb dX10_isSentence_276 rfl (lv_at hl 0 rfl) ?_
          refine va_calli (A0 := jA base) (H0 := s.heap) (va_runV (As := []) (rest := []) ⟨hx, hb, hml, hown, hts⟩ (uX10_isName l dC dI ca base B hB hAp hB12 hB101 G0 H_53 r0 tokens_7 qa_53) (cwV 0 hts (jgV (jWr_79 _ (List.mem_of_getElem? (i := 10) rfl)) (jWr_79 _ (List.mem_of_getElem? (i := 11) rfl)) (jWr_79 _ (List.mem_of_getElem? (i := 12) rfl)) (jWr_4 _ (List.mem_of_getElem? (i := 14) rfl)) (jWr_79 _ (List.mem_of_getElem? (i := 13) rfl))) rfl rfl rfl (by decide +kernel) ⟨by rw [← hR]; exact Nat.le_of_ble_eq_true rfl, by rw [← hR]; exact Nat.le_of_ble_eq_true rfl⟩) ⟨fun a U g mk q => by obtain ⟨q0, q1, q2, qK, q10, q11, q12⟩ := q; exact ⟨q0, q1, q2, jG.calling g mk a qK, q10, q11, q12⟩, hh_53.recv (C := RX10) (T := TX10) (N := 11) hB12 rfl (by decide) hg_r0 hK, fun U hU hW => ⟨rfl, hU, hh_53.2.1, hG.step hW hU hh_53.1, hg_r0, (hh_53.2.2.1.sub (L1 := [(r0, 12, 3, .int tokens_7), (r0, 12, 4, .int qa_53)]) [3, 0] rfl), by first | omega | (refine ⟨?_, ?_, ?_, ?_, ?_⟩ <;> (first | omega | rfl | assumption | decide | exact Or.inl rfl | exact Or.inr rfl | (simp only; omega)))⟩⟩ rfl rfl hl.1 rfl (lv_room (Nat.le_of_ble_eq_true rfl)) dX10_isSentence_277 ⟨Nat.zero_le _, Nat.zero_le _⟩) hh_53.1 (fun q _ h => h) (fun q h => h) (fun r_57 u_56 t_56 H_56 locs_56 ht_56 hvm_56 hr_57 hb_56 hz_56 hk_56 hS_56 => ?_)
          obtain ⟨qa_56, rfl⟩ : ∃ z, z = u_56 := ⟨_, rfl⟩
          rw [ht_56] at hb_56
          obtain ⟨hb_561, hb_562, hb_563, hb_564, hb_565⟩ := hb_56
          have hh_56 : jSt (dC, dI) B base G0 G0 EX10_isSentence s.heap 0 0 [(r0, 12, 4, .int qa_56), (r0, 12, 10, .int qc_53), (r0, 12, 5, .int w0_8), (r0, 12, 3, .int tokens_7), (r0, 12, 8, .int 0)] [] [] H_56 locs_56 := ((hh_53.call hb_561 hb_562 hb_563 hb_564 hS_56 rfl (L1 := [(r0, 12, 10, .int qc_53), (r0, 12, 5, .int w0_8), (r0, 12, 3, .int tokens_7), (r0, 12, 8, .int 0)]) [1, 2, 3, 4] rfl rfl (M1 := []) [] rfl rfl (I1 := []) [] rfl rfl).more hb_565)
          clear hh_53 ht_56 hvm_56 hz_56 hk_56 hS_56 hb_561 hb_562 hb_563 hb_564 hb_565
          obtain ⟨hr_57b, hr_57p⟩ := hr_57
          obtain ⟨hr_57p_0, hr_57p_1⟩ := hr_57p
          have hr_57' := jb_01 hr_57b
          refine lv_if_eq (tgt := 287) hx hb dX10_isSentence_280 (by decide) (fun c_58 => ?_) (fun c_58 => ?_)
          · skip
            have c_58' : r_57.toInt = 0 := jb_eq (rfl) ((by decide)) c_58
            first | (have hr_54p_4q := hr_54p_4.resolve_left (by omega); clear hr_54p_4) | (have hr_54p_4q := hr_54p_4.resolve_right (by omega); clear hr_54p_4) | skip
            first | (have hr_57p_1q := hr_57p_1.resolve_left (by omega); clear hr_57p_1) | (have hr_57p_1q := hr_57p_1.resolve_right (by omega); clear hr_57p_1) | skip
            refine lv_iconst (v := 0) hx hb dX10_isSentence_287 (by decide) ?_
            refine lv_istore_n (lv' := [(1, .int 0), (0, .ref r0)]) hx hb dX10_isSentence_288 rfl hl (by decide) rfl (fun ls hl => ?_)
            refine lv_goto (tgt := 294) hx hb dX10_isSentence_289 (by decide) ?_
            exact C294 0 qa_56 _ _ (hh_56.sub (L1 := [(r0, 12, 4, .int qa_56), (r0, 12, 5, .int w0_8), (r0, 12, 3, .int tokens_7)]) [0, 2, 3] rfl (M1 := []) [] rfl (I1 := []) [] rfl) (Or.inl rfl) (by first | omega | (refine ⟨?_, ?_⟩ <;> (first | omega | rfl | assumption | decide | exact Or.inl rfl | exact Or.inr rfl | (simp only; omega)))) _ (lv_sub hl [1, 0] rfl)
          · skip
            have c_58' : r_57.toInt ≠ 0 := jb_eq_n (rfl) ((by decide)) c_58
            first | (have hr_54p_4q := hr_54p_4.resolve_left (by omega); clear hr_54p_4) | (have hr_54p_4q := hr_54p_4.resolve_right (by omega); clear hr_54p_4) | skip
            first | (have hr_57p_1q := hr_57p_1.resolve_left (by omega); clear hr_57p_1) | (have hr_57p_1q := hr_57p_1.resolve_right (by omega); clear hr_57p_1) | skip
            refine lv_iconst (v := 1) hx hb dX10_isSentence_283 (by decide) ?_
            refine lv_goto (tgt := 288) hx hb dX10_isSentence_284 (by decide) ?_
            refine lv_istore_n (lv' := [(1, .int 1), (0, .ref r0)]) hx hb dX10_isSentence_288 rfl hl (by decide) rfl (fun ls hl => ?_)
            refine lv_goto (tgt := 294) hx hb dX10_isSentence_289 (by decide) ?_
            exact C294 1 qa_56 _ _ (hh_56.sub (L1 := [(r0, 12, 4, .int qa_56), (r0, 12, 5, .int w0_8), (r0, 12, 3, .int tokens_7)]) [0, 2, 3] rfl (M1 := []) [] rfl (I1 := []) [] rfl) (Or.inr rfl) (by first | omega | (refine ⟨?_, ?_⟩ <;> (first | omega | rfl | assumption | decide | exact Or.inl rfl | exact Or.inr rfl | (simp only; omega)))) _ (lv_sub hl [1, 0] rfl)
    · refine lv_tableIn (off := 149) (tgt := 205) hx hb dX10_isSentence_56 (by omega) (by omega) (by rw [c_17]; rfl) (by decide) ?_
      exact C205  _ _ hh_9 (by first | omega | (refine ⟨?_, ?_⟩ <;> (first | omega | rfl | assumption | decide | exact Or.inl rfl | exact Or.inr rfl | (simp only; omega)))) _ (lv_sub hl [0] rfl)
    · refine lv_tableIn (off := 154) (tgt := 210) hx hb dX10_isSentence_56 (by omega) (by omega) (by rw [c_17]; rfl) (by decide) ?_
      exact C210  _ _ hh_9 (by first | omega | (refine ⟨?_, ?_⟩ <;> (first | omega | rfl | assumption | decide | exact Or.inl rfl | exact Or.inr rfl | (simp only; omega)))) _ (lv_sub hl [0] rfl)
    · refine lv_tableIn (off := 115) (tgt := 171) hx hb dX10_isSentence_56 (by omega) (by omega) (by rw [c_17]; rfl) (by decide) ?_
      exact C171  _ _ hh_9 (by first | omega | (refine ⟨?_, ?_⟩ <;> (first | omega | rfl | assumption | decide | exact Or.inl rfl | exact Or.inr rfl | (simp only; omega)))) _ (lv_sub hl [0] rfl)
  refine lv_if_le (tgt := 48) hx hb dX10_isSentence_25 (by decide) (fun c_59 => ?_) (fun c_59 => ?_)
  · skip
    have c_59' : tokens_7.toInt ≤ 0 := jb_le (rfl) ((by decide)) c_59
    refine lv_iconst (v := (-1)) hx hb dX10_isSentence_48 (by decide) ?_
    exact C49 (-1) _ _ hh_6 (by first | omega | rfl | assumption | decide | exact Or.inl rfl | exact Or.inr rfl | (simp only; omega)) _ (lv_sub hl [0] rfl)
  · skip
    have c_59' : tokens_7.toInt > 0 := jb_le_n (rfl) ((by decide)) c_59
    refine lv_aload_n hx hb dX10_isSentence_28 rfl (lv_at hl 0 rfl) ?_
    obtain ⟨v_60, hv_60, hh_61⟩ := hh_6.pin (C := RX10) (T := TX10) (N := 11) hB12 rfl (by decide) hg_r0 (i := 1) (by decide) rfl
    clear hh_6
    obtain ⟨kinds_62, rfl, hg_kinds_62⟩ := hv_60
    refine j7_read hx hb hown hK (C := RX10) (T := TX10) (N := 11) rfl hly_12_1 hlk_9 (hh_61.at 0 rfl) dX10_isSentence_29 ?_
    refine lv_iconst (v := 0) hx hb dX10_isSentence_32 (by decide) ?_
    refine j7_iald hx hb hK hh_61 hB101 1 rfl (by decide) hg_kinds_62 (x := 0) ((by decide)) (by omega) dX10_isSentence_33 (fun z_63 (hz_63 : True) => ?_)
    refine lv_bipush (v := 110) hx hb dX10_isSentence_34 (by decide) ?_
    refine lv_icmp_ne (tgt := 48) hx hb dX10_isSentence_36 (by decide) (fun c_64 => ?_) (fun c_64 => ?_)
    · skip
      have c_64' : z_63.toInt ≠ 110 := jb_ne (rfl) ((by decide)) c_64
      refine lv_iconst (v := (-1)) hx hb dX10_isSentence_48 (by decide) ?_
      exact C49 (-1) _ _ (hh_61.sub (L1 := [(r0, 12, 3, .int tokens_7), (r0, 12, 8, .int 0), (r0, 12, 10, .int 0), (r0, 12, 7, .int 0), (r0, 12, 4, .int 1)]) [1, 2, 3, 4, 5] rfl (M1 := []) [] rfl (I1 := []) [] rfl) (by first | omega | rfl | assumption | decide | exact Or.inl rfl | exact Or.inr rfl | (simp only; omega)) _ (lv_sub hl [0] rfl)
    · skip
      have c_64' : z_63.toInt = 110 := jb_ne_n (rfl) ((by decide)) c_64
      refine lv_aload_n hx hb dX10_isSentence_39 rfl (lv_at hl 0 rfl) ?_
      obtain ⟨v_65, hv_65, hh_66⟩ := hh_61.pin (C := RX10) (T := TX10) (N := 11) hB12 rfl (by decide) hg_r0 (i := 2) (by decide) rfl
      clear hh_61
      obtain ⟨values_67, rfl, hg_values_67⟩ := hv_65
      refine j7_read hx hb hown hK (C := RX10) (T := TX10) (N := 11) rfl hly_12_2 hlk_15 (hh_66.at 0 rfl) dX10_isSentence_40 ?_
      refine lv_iconst (v := 0) hx hb dX10_isSentence_43 (by decide) ?_
      refine j7_iald hx hb hK hh_66 hB101 1 rfl (by decide) hg_values_67 (x := 0) ((by decide)) (by omega) dX10_isSentence_44 (fun z_68 (hz_68 : True) => ?_)
      refine lv_goto (tgt := 49) hx hb dX10_isSentence_45 (by decide) ?_
      exact C49 z_68 _ _ (hh_66.sub (L1 := [(r0, 12, 3, .int tokens_7), (r0, 12, 8, .int 0), (r0, 12, 10, .int 0), (r0, 12, 7, .int 0), (r0, 12, 4, .int 1)]) [2, 3, 4, 5, 6] rfl (M1 := []) [] rfl (I1 := []) [] rfl) (by first | omega | rfl | assumption | decide | exact Or.inl rfl | exact Or.inr rfl | (simp only; omega)) _ (lv_sub hl [0] rfl)
