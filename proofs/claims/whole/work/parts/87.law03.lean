set_option maxHeartbeats 4000000 in
set_option maxRecDepth 100000 in
theorem law_3 (l : Launch) (dC : Nat → ClassId) (dI : Nat → Nat → Nat) (cI cL cB : ClassId) {p : Program} {e : Env} {s : State} {m : MethodId} {below : List Frame} {meth : Method} {c : Code} {A : Nat → Prop} {Z : State → Prop} {b L : Nat} {xs : Nat → Int32} (hL : L ≤ 4096) (hx : p.tables.exec = Jvm.exec) (hb : c.code = code) (hml : c.maxLocals = 4) (hown : s.vm.findClass "FieldTablesLaw" = some m.cls) (hw : ∀ x ∈ WALL, x.before [Value.ref b].toArray s = true) (hX : va_X b L xs s s.heap) (hbl : b < s.heap.size) (hbA : ¬ A b) (hK : va_K (dC, dI) classes (tyK cI cL cB) s) (hA : ∀ q, s.heap.size ≤ q → A q) (ix : Nat) (hix : ix + 8 ≤ L) (x0 : Nat) (tr : Nat) (f : Nat) (y1 : Nat) (y2 : Nat) (y3 : Nat) (y4 : Nat) (y5 : Nat) (a1 : Nat) (a2 : Nat) (a3 : Nat) (a4 : Nat) (a5 : Nat) (a6 : Nat) (ck : Nat) (nT : Nat) (g : Nat) (gt : Nat) (cn : Int64) (a : AS) (fi : Nat → Nat) (la : Nat → Nat) (kc : Nat → Nat) (vc : Nat → Nat) (bo : Nat → Nat) (ow : Nat → Nat) (ky : Nat → Int64) (kd : Nat → Nat) (nu : Nat → Int64) (fo : Nat → Nat) (sn : Nat → Nat) (mo : Nat) (m1 : Nat) (m2 : Nat) (m3 : Nat) (m4 : Nat) (m5 : Nat) (m6 : Nat) (m7 : Nat) (m8 : Nat) (m9 : Nat) (m10 : Nat) (m11 : Nat) (gm : Nat) (gtm : Nat) (rk : Nat → Nat) (ry : Nat → Int64) (rd : Nat → Nat) (ru : Nat → Int64) (rt : Nat → Nat) (rx : Nat → Nat) (ro : Nat → Nat) (rc : Nat → Nat) (rf : Nat → Nat) (rl : Nat → Nat) (rs : Nat → Nat) (hCI : CI nT a g gt ow ky kd nu fo sn fi la kc vc bo) (hMI : MI nT a gm gtm rk ry rd ru rt rx ro rc rf rl rs) {H : Heap} {locs : List Loc} (hP : va_P (dC, dI) classes [(x0, .inr (0, [.ref tr, .ref f, .int (nI ck), .long cn])), (tr, .inr (1, [.int (nI nT), .ref y1, .ref y2, .ref y3, .ref y4, .ref y5])), (y1, .inl (cI, hz_R gt, .inl (nf fi))), (y2, .inl (cI, hz_R gt, .inl (nf la))), (y3, .inl (cI, hz_R gt, .inl (nf kc))), (y4, .inl (cI, hz_R gt, .inl (nf vc))), (y5, .inl (cI, hz_R gt, .inl (nf bo))), (f, .inr (2, [.int (nI (aN a)), .ref a1, .ref a2, .ref a3, .ref a4, .ref a5, .ref a6])), (a1, .inl (cI, hz_L g, .inl (nf ow))), (a2, .inl (cL, hz_L g, .inr (.inl ky))), (a3, .inl (cB, hz_L g, .inl (nf kd))), (a4, .inl (cL, hz_L g, .inr (.inl nu))), (a5, .inl (cI, hz_L g, .inl (nf fo))), (a6, .inl (cI, hz_M g, .inl (nf sn))), (mo, .inr (3, [.ref m1, .ref m2, .ref m3, .ref m4, .ref m5, .ref m6, .ref m7, .int (nI (aN a)), .ref m8, .ref m9, .ref m10, .ref m11, .int (nI nT), .int (nI ck), .long cn])), (m1, .inl (cB, md_L gm, .inl (nf rk))), (m2, .inl (cL, md_L gm, .inr (.inl ry))), (m3, .inl (cB, md_L gm, .inl (nf rd))), (m4, .inl (cL, md_L gm, .inr (.inl ru))), (m5, .inl (cI, md_L gm, .inl (nf rt))), (m6, .inl (cI, md_L gm, .inl (nf rx))), (m7, .inl (cI, md_L gm, .inl (nf ro))), (m8, .inl (cI, 8191, .inl (nf rc))), (m9, .inl (cI, md_R gtm, .inl (nf rf))), (m10, .inl (cI, md_R gtm, .inl (nf rl))), (m11, .inl (cI, md_R gtm, .inl (nf rs)))] H) (hD : va_D A [(x0, .inr (0, [.ref tr, .ref f, .int (nI ck), .long cn])), (tr, .inr (1, [.int (nI nT), .ref y1, .ref y2, .ref y3, .ref y4, .ref y5])), (y1, .inl (cI, hz_R gt, .inl (nf fi))), (y2, .inl (cI, hz_R gt, .inl (nf la))), (y3, .inl (cI, hz_R gt, .inl (nf kc))), (y4, .inl (cI, hz_R gt, .inl (nf vc))), (y5, .inl (cI, hz_R gt, .inl (nf bo))), (f, .inr (2, [.int (nI (aN a)), .ref a1, .ref a2, .ref a3, .ref a4, .ref a5, .ref a6])), (a1, .inl (cI, hz_L g, .inl (nf ow))), (a2, .inl (cL, hz_L g, .inr (.inl ky))), (a3, .inl (cB, hz_L g, .inl (nf kd))), (a4, .inl (cL, hz_L g, .inr (.inl nu))), (a5, .inl (cI, hz_L g, .inl (nf fo))), (a6, .inl (cI, hz_M g, .inl (nf sn))), (mo, .inr (3, [.ref m1, .ref m2, .ref m3, .ref m4, .ref m5, .ref m6, .ref m7, .int (nI (aN a)), .ref m8, .ref m9, .ref m10, .ref m11, .int (nI nT), .int (nI ck), .long cn])), (m1, .inl (cB, md_L gm, .inl (nf rk))), (m2, .inl (cL, md_L gm, .inr (.inl ry))), (m3, .inl (cB, md_L gm, .inl (nf rd))), (m4, .inl (cL, md_L gm, .inr (.inl ru))), (m5, .inl (cI, md_L gm, .inl (nf rt))), (m6, .inl (cI, md_L gm, .inl (nf rx))), (m7, .inl (cI, md_L gm, .inl (nf ro))), (m8, .inl (cI, 8191, .inl (nf rc))), (m9, .inl (cI, md_R gtm, .inl (nf rf))), (m10, .inl (cI, md_R gtm, .inl (nf rl))), (m11, .inl (cI, md_R gtm, .inl (nf rs)))]) (hS : va_S A s.heap H locs) {ls : Array Slot} (hl : lv_has ls 4 [(0, .ref b), (1, .ref x0), (2, .ref mo), (3, .int (nI ix))]) (join_977 : ∀ (x0 : Nat) (tr : Nat) (f : Nat) (y1 : Nat) (y2 : Nat) (y3 : Nat) (y4 : Nat) (y5 : Nat) (a1 : Nat) (a2 : Nat) (a3 : Nat) (a4 : Nat) (a5 : Nat) (a6 : Nat) (ck : Nat) (nT : Nat) (g : Nat) (gt : Nat) (cn : Int64) (a : AS) (fi : Nat → Nat) (la : Nat → Nat) (kc : Nat → Nat) (vc : Nat → Nat) (bo : Nat → Nat) (ow : Nat → Nat) (ky : Nat → Int64) (kd : Nat → Nat) (nu : Nat → Int64) (fo : Nat → Nat) (sn : Nat → Nat) (mo : Nat) (m1 : Nat) (m2 : Nat) (m3 : Nat) (m4 : Nat) (m5 : Nat) (m6 : Nat) (m7 : Nat) (m8 : Nat) (m9 : Nat) (m10 : Nat) (m11 : Nat) (gm : Nat) (gtm : Nat) (rk : Nat → Nat) (ry : Nat → Int64) (rd : Nat → Nat) (ru : Nat → Int64) (rt : Nat → Nat) (rx : Nat → Nat) (ro : Nat → Nat) (rc : Nat → Nat) (rf : Nat → Nat) (rl : Nat → Nat) (rs : Nat → Nat), CI nT a g gt ow ky kd nu fo sn fi la kc vc bo → MI nT a gm gtm rk ry rd ru rt rx ro rc rf rl rs → ∀ (H : Heap) (locs : List Loc), va_P (dC, dI) classes [(x0, .inr (0, [.ref tr, .ref f, .int (nI ck), .long cn])), (tr, .inr (1, [.int (nI nT), .ref y1, .ref y2, .ref y3, .ref y4, .ref y5])), (y1, .inl (cI, hz_R gt, .inl (nf fi))), (y2, .inl (cI, hz_R gt, .inl (nf la))), (y3, .inl (cI, hz_R gt, .inl (nf kc))), (y4, .inl (cI, hz_R gt, .inl (nf vc))), (y5, .inl (cI, hz_R gt, .inl (nf bo))), (f, .inr (2, [.int (nI (aN a)), .ref a1, .ref a2, .ref a3, .ref a4, .ref a5, .ref a6])), (a1, .inl (cI, hz_L g, .inl (nf ow))), (a2, .inl (cL, hz_L g, .inr (.inl ky))), (a3, .inl (cB, hz_L g, .inl (nf kd))), (a4, .inl (cL, hz_L g, .inr (.inl nu))), (a5, .inl (cI, hz_L g, .inl (nf fo))), (a6, .inl (cI, hz_M g, .inl (nf sn))), (mo, .inr (3, [.ref m1, .ref m2, .ref m3, .ref m4, .ref m5, .ref m6, .ref m7, .int (nI (aN a)), .ref m8, .ref m9, .ref m10, .ref m11, .int (nI nT), .int (nI ck), .long cn])), (m1, .inl (cB, md_L gm, .inl (nf rk))), (m2, .inl (cL, md_L gm, .inr (.inl ry))), (m3, .inl (cB, md_L gm, .inl (nf rd))), (m4, .inl (cL, md_L gm, .inr (.inl ru))), (m5, .inl (cI, md_L gm, .inl (nf rt))), (m6, .inl (cI, md_L gm, .inl (nf rx))), (m7, .inl (cI, md_L gm, .inl (nf ro))), (m8, .inl (cI, 8191, .inl (nf rc))), (m9, .inl (cI, md_R gtm, .inl (nf rf))), (m10, .inl (cI, md_R gtm, .inl (nf rl))), (m11, .inl (cI, md_R gtm, .inl (nf rs)))] H → va_D A [(x0, .inr (0, [.ref tr, .ref f, .int (nI ck), .long cn])), (tr, .inr (1, [.int (nI nT), .ref y1, .ref y2, .ref y3, .ref y4, .ref y5])), (y1, .inl (cI, hz_R gt, .inl (nf fi))), (y2, .inl (cI, hz_R gt, .inl (nf la))), (y3, .inl (cI, hz_R gt, .inl (nf kc))), (y4, .inl (cI, hz_R gt, .inl (nf vc))), (y5, .inl (cI, hz_R gt, .inl (nf bo))), (f, .inr (2, [.int (nI (aN a)), .ref a1, .ref a2, .ref a3, .ref a4, .ref a5, .ref a6])), (a1, .inl (cI, hz_L g, .inl (nf ow))), (a2, .inl (cL, hz_L g, .inr (.inl ky))), (a3, .inl (cB, hz_L g, .inl (nf kd))), (a4, .inl (cL, hz_L g, .inr (.inl nu))), (a5, .inl (cI, hz_L g, .inl (nf fo))), (a6, .inl (cI, hz_M g, .inl (nf sn))), (mo, .inr (3, [.ref m1, .ref m2, .ref m3, .ref m4, .ref m5, .ref m6, .ref m7, .int (nI (aN a)), .ref m8, .ref m9, .ref m10, .ref m11, .int (nI nT), .int (nI ck), .long cn])), (m1, .inl (cB, md_L gm, .inl (nf rk))), (m2, .inl (cL, md_L gm, .inr (.inl ry))), (m3, .inl (cB, md_L gm, .inl (nf rd))), (m4, .inl (cL, md_L gm, .inr (.inl ru))), (m5, .inl (cI, md_L gm, .inl (nf rt))), (m6, .inl (cI, md_L gm, .inl (nf rx))), (m7, .inl (cI, md_L gm, .inl (nf ro))), (m8, .inl (cI, 8191, .inl (nf rc))), (m9, .inl (cI, md_R gtm, .inl (nf rf))), (m10, .inl (cI, md_R gtm, .inl (nf rl))), (m11, .inl (cI, md_R gtm, .inl (nf rs)))] → va_S A s.heap H locs → ∀ (ls : Array Slot), lv_has ls 4 [(0, .ref b), (1, .ref x0), (2, .ref mo), (3, .int (nI ix))] → W p l e { frames := 9, cells := 600000, slots := 7302250, locals := 380 } s m [Value.ref b].toArray below meth c H locs (26 + 6 * g + 5 * gt + 7 * gm + 3 * gtm) (9295 + Gs g + Rs gt + Ms gm + Mt gtm) Z (F0 m 977 ls [])) : W p l e { frames := 9, cells := 600000, slots := 7302250, locals := 380 } s m [Value.ref b].toArray below meth c H locs (26 + 6 * g + 5 * gt + 7 * gm + 3 * gtm) (9295 + Gs g + Rs gt + Ms gm + Mt gtm) Z (F0 m 337 ls []) := by
  have hg5 := hCI.1.2.2.1
  have hgt9 := hCI.2.2.1
  have hgm9 := hMI.1.2.2.1
  have hgtm9 := hMI.2.2.1
  have hAI := hCI.1.1
  have hnT := hCI.1.2.1
  have ht1 := Gs_top g hg5
  have ht2 := Rs_top gt hgt9
  have ht3 := Ms_top gm hgm9
  have ht4 := Mt_top gtm hgtm9
  refine lv_aload_n hx hb d_L_law_337 rfl (lv_at hl 1 rfl) ?_
  refine lv_aload_n hx hb d_L_law_338 rfl (lv_at hl 0 rfl) ?_
  refine lv_iload_n hx hb d_L_law_339 rfl (lv_at hl 3 rfl) ?_
  refine lv_iconst (v := nI 1) hx hb d_L_law_340 (by decide) ?_
  refine lv_iadd hx hb d_L_law_341 ?_
  refine fz_eqi (y := nI (ix + 1)) (nI_add ix 1) ?_
  refine fz_sld hx hb hX hbl hbA hS (j := ix + 1) (by omega) hL d_L_law_342 ?_
  refine lv_aload_n hx hb d_L_law_343 rfl (lv_at hl 0 rfl) ?_
  refine lv_iload_n hx hb d_L_law_344 rfl (lv_at hl 3 rfl) ?_
  refine lv_iconst (v := nI 2) hx hb d_L_law_345 (by decide) ?_
  refine lv_iadd hx hb d_L_law_346 ?_
  refine fz_eqi (y := nI (ix + 2)) (nI_add ix 2) ?_
  refine fz_sld hx hb hX hbl hbA hS (j := ix + 2) (by omega) hL d_L_law_347 ?_
  refine lv_aload_n hx hb d_L_law_348 rfl (lv_at hl 0 rfl) ?_
  refine lv_iload_n hx hb d_L_law_349 rfl (lv_at hl 3 rfl) ?_
  refine lv_iconst (v := nI 3) hx hb d_L_law_350 (by decide) ?_
  refine lv_iadd hx hb d_L_law_351 ?_
  refine fz_eqi (y := nI (ix + 3)) (nI_add ix 3) ?_
  refine fz_sld hx hb hX hbl hbA hS (j := ix + 3) (by omega) hL d_L_law_352 ?_
  refine lv_i2l hx hb d_L_law_353 rfl ?_
  refine lv_bipush (v := nI 32) hx hb d_L_law_354 (by decide) ?_
  refine lv_lshl hx hb d_L_law_356 rfl ?_
  refine lv_aload_n hx hb d_L_law_357 rfl (lv_at hl 0 rfl) ?_
  refine lv_iload_n hx hb d_L_law_358 rfl (lv_at hl 3 rfl) ?_
  refine lv_iconst (v := nI 4) hx hb d_L_law_359 (by decide) ?_
  refine lv_iadd hx hb d_L_law_360 ?_
  refine fz_eqi (y := nI (ix + 4)) (nI_add ix 4) ?_
  refine fz_sld hx hb hX hbl hbA hS (j := ix + 4) (by omega) hL d_L_law_361 ?_
  refine lv_i2l hx hb d_L_law_362 rfl ?_
  refine lv_ldc2 (v := 4294967295) hx hb hown (hw _ m_544) d_L_law_363 ?_
  refine fz_eql (y := lN 4294967295) (by decide) ?_
  refine lv_land hx hb d_L_law_366 ?_
  refine lv_lor hx hb d_L_law_367 ?_
  refine lv_topl (fun q1 eq1 => ?_)
  refine QryL.callV (ci := 0) (q0 := 0) (c_numberAt l dC dI cI cL cB x0 tr f y1 y2 y3 y4 y5 a1 a2 a3 a4 a5 a6 ck nT g gt cn a fi la kc vc bo ow ky kd nu fo sn (xs (ix + 1)) (xs (ix + 2)) q1 hCI) ⟨hx, hb, hml, hown, hw⟩ (fz_cwV 3 hw m_224 m_221 m_222 m_223 m_1 rfl rfl (by decide +kernel) ⟨Nat.le_of_ble_eq_true rfl, Nat.le_of_ble_eq_true rfl⟩) hK hP [0, 1, 2, 3, 4, 5, 6, 7, 8, 9, 10, 11, 12, 13] rfl rfl rfl rfl rfl hl.1 rfl (Nat.le_of_ble_eq_true rfl) d_L_law_368 ⟨(by (try dsimp only); omega), (by (try dsimp only); omega)⟩ (fun r368 h368 => ?_)
  refine lv_aload_n hx hb d_L_law_371 rfl (lv_at hl 2 rfl) ?_
  refine lv_aload_n hx hb d_L_law_372 rfl (lv_at hl 0 rfl) ?_
  refine lv_iload_n hx hb d_L_law_373 rfl (lv_at hl 3 rfl) ?_
  refine lv_iconst (v := nI 1) hx hb d_L_law_374 (by decide) ?_
  refine lv_iadd hx hb d_L_law_375 ?_
  refine fz_eqi (y := nI (ix + 1)) (nI_add ix 1) ?_
  refine fz_sld hx hb hX hbl hbA hS (j := ix + 1) (by omega) hL d_L_law_376 ?_
  refine lv_aload_n hx hb d_L_law_377 rfl (lv_at hl 0 rfl) ?_
  refine lv_iload_n hx hb d_L_law_378 rfl (lv_at hl 3 rfl) ?_
  refine lv_iconst (v := nI 2) hx hb d_L_law_379 (by decide) ?_
  refine lv_iadd hx hb d_L_law_380 ?_
  refine fz_eqi (y := nI (ix + 2)) (nI_add ix 2) ?_
  refine fz_sld hx hb hX hbl hbA hS (j := ix + 2) (by omega) hL d_L_law_381 ?_
  refine lv_aload_n hx hb d_L_law_382 rfl (lv_at hl 0 rfl) ?_
  refine lv_iload_n hx hb d_L_law_383 rfl (lv_at hl 3 rfl) ?_
  refine lv_iconst (v := nI 3) hx hb d_L_law_384 (by decide) ?_
  refine lv_iadd hx hb d_L_law_385 ?_
  refine fz_eqi (y := nI (ix + 3)) (nI_add ix 3) ?_
  refine fz_sld hx hb hX hbl hbA hS (j := ix + 3) (by omega) hL d_L_law_386 ?_
  refine lv_i2l hx hb d_L_law_387 rfl ?_
  refine lv_bipush (v := nI 32) hx hb d_L_law_388 (by decide) ?_
  refine lv_lshl hx hb d_L_law_390 rfl ?_
  refine lv_aload_n hx hb d_L_law_391 rfl (lv_at hl 0 rfl) ?_
  refine lv_iload_n hx hb d_L_law_392 rfl (lv_at hl 3 rfl) ?_
  refine lv_iconst (v := nI 4) hx hb d_L_law_393 (by decide) ?_
  refine lv_iadd hx hb d_L_law_394 ?_
  refine fz_eqi (y := nI (ix + 4)) (nI_add ix 4) ?_
  refine fz_sld hx hb hX hbl hbA hS (j := ix + 4) (by omega) hL d_L_law_395 ?_
  refine lv_i2l hx hb d_L_law_396 rfl ?_
  refine lv_ldc2 (v := 4294967295) hx hb hown (hw _ m_544) d_L_law_397 ?_
  refine fz_eql (y := lN 4294967295) (by decide) ?_
  refine lv_land hx hb d_L_law_400 ?_
  refine lv_lor hx hb d_L_law_401 ?_
  refine fz_eql (y := q1) (eq1.symm) ?_
  refine QryL.callV (ci := 3) (q0 := 0) (m_numberAt l dC dI cI cL cB mo m1 m2 m3 m4 m5 m6 m7 m8 m9 m10 m11 ck nT gm gtm cn a rk ry rd ru rt rx ro rc rf rl rs (xs (ix + 1)) (xs (ix + 2)) q1 hMI) ⟨hx, hb, hml, hown, hw⟩ (fz_cwV 3 hw m_460 m_457 m_458 m_459 m_4 rfl rfl (by decide +kernel) ⟨Nat.le_of_ble_eq_true rfl, Nat.le_of_ble_eq_true rfl⟩) hK hP [14, 15, 16, 17, 18, 19, 20, 21, 22, 23, 24, 25] rfl rfl rfl rfl rfl hl.1 rfl (Nat.le_of_ble_eq_true rfl) d_L_law_402 ⟨(by (try dsimp only); omega), (by (try dsimp only); omega)⟩ (fun r402 h402 => ?_)
  refine W.lcmp hx hb d_L_law_405 ?_
  refine lv_if_eq (tgt := 977) hx hb d_L_law_406 (by decide) (fun c406 => ?_) (fun c406 => ?_)
  · have c406 : r368 = r402 := (lg_cmp_eq _ _).mp c406
    exact join_977 x0 tr f y1 y2 y3 y4 y5 a1 a2 a3 a4 a5 a6 ck nT g gt cn a fi la kc vc bo ow ky kd nu fo sn mo m1 m2 m3 m4 m5 m6 m7 m8 m9 m10 m11 gm gtm rk ry rd ru rt rx ro rc rf rl rs hCI hMI  _ _ hP hD hS ls (lv_sub hl [0, 1, 2, 3] rfl)
  · have c406 : ¬ r368 = r402 := fun h => c406 ((lg_cmp_eq _ _).mpr h)
    exact absurd (by rw [h368, h402]) c406
