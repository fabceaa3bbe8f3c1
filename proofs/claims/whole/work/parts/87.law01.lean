set_option maxHeartbeats 4000000 in
set_option maxRecDepth 100000 in
theorem law_1 (l : Launch) (dC : Nat → ClassId) (dI : Nat → Nat → Nat) (cI cL cB : ClassId) {p : Program} {e : Env} {s : State} {m : MethodId} {below : List Frame} {meth : Method} {c : Code} {A : Nat → Prop} {Z : State → Prop} {b L : Nat} {xs : Nat → Int32} (hL : L ≤ 4096) (hx : p.tables.exec = Jvm.exec) (hb : c.code = code) (hml : c.maxLocals = 4) (hown : s.vm.findClass "FieldTablesLaw" = some m.cls) (hw : ∀ x ∈ WALL, x.before [Value.ref b].toArray s = true) (hX : va_X b L xs s s.heap) (hbl : b < s.heap.size) (hbA : ¬ A b) (hK : va_K (dC, dI) classes (tyK cI cL cB) s) (hA : ∀ q, s.heap.size ≤ q → A q) (ix : Nat) (hix : ix + 8 ≤ L) (x0 : Nat) (tr : Nat) (f : Nat) (y1 : Nat) (y2 : Nat) (y3 : Nat) (y4 : Nat) (y5 : Nat) (a1 : Nat) (a2 : Nat) (a3 : Nat) (a4 : Nat) (a5 : Nat) (a6 : Nat) (ck : Nat) (nT : Nat) (g : Nat) (gt : Nat) (cn : Int64) (a : AS) (fi : Nat → Nat) (la : Nat → Nat) (kc : Nat → Nat) (vc : Nat → Nat) (bo : Nat → Nat) (ow : Nat → Nat) (ky : Nat → Int64) (kd : Nat → Nat) (nu : Nat → Int64) (fo : Nat → Nat) (sn : Nat → Nat) (mo : Nat) (m1 : Nat) (m2 : Nat) (m3 : Nat) (m4 : Nat) (m5 : Nat) (m6 : Nat) (m7 : Nat) (m8 : Nat) (m9 : Nat) (m10 : Nat) (m11 : Nat) (gm : Nat) (gtm : Nat) (rk : Nat → Nat) (ry : Nat → Int64) (rd : Nat → Nat) (ru : Nat → Int64) (rt : Nat → Nat) (rx : Nat → Nat) (ro : Nat → Nat) (rc : Nat → Nat) (rf : Nat → Nat) (rl : Nat → Nat) (rs : Nat → Nat) (hCI : CI nT a g gt ow ky kd nu fo sn fi la kc vc bo) (hMI : MI nT a gm gtm rk ry rd ru rt rx ro rc rf rl rs) {H : Heap} {locs : List Loc} (hP : va_P (dC, dI) classes [(x0, .inr (0, [.ref tr, .ref f, .int (nI ck), .long cn])), (tr, .inr (1, [.int (nI nT), .ref y1, .ref y2, .ref y3, .ref y4, .ref y5])), (y1, .inl (cI, hz_R gt, .inl (nf fi))), (y2, .inl (cI, hz_R gt, .inl (nf la))), (y3, .inl (cI, hz_R gt, .inl (nf kc))), (y4, .inl (cI, hz_R gt, .inl (nf vc))), (y5, .inl (cI, hz_R gt, .inl (nf bo))), (f, .inr (2, [.int (nI (aN a)), .ref a1, .ref a2, .ref a3, .ref a4, .ref a5, .ref a6])), (a1, .inl (cI, hz_L g, .inl (nf ow))), (a2, .inl (cL, hz_L g, .inr (.inl ky))), (a3, .inl (cB, hz_L g, .inl (nf kd))), (a4, .inl (cL, hz_L g, .inr (.inl nu))), (a5, .inl (cI, hz_L g, .inl (nf fo))), (a6, .inl (cI, hz_M g, .inl (nf sn))), (mo, .inr (3, [.ref m1, .ref m2, .ref m3, .ref m4, .ref m5, .ref m6, .ref m7, .int (nI (aN a)), .ref m8, .ref m9, .ref m10, .ref m11, .int (nI nT), .int (nI ck), .long cn])), (m1, .inl (cB, md_L gm, .inl (nf rk))), (m2, .inl (cL, md_L gm, .inr (.inl ry))), (m3, .inl (cB, md_L gm, .inl (nf rd))), (m4, .inl (cL, md_L gm, .inr (.inl ru))), (m5, .inl (cI, md_L gm, .inl (nf rt))), (m6, .inl (cI, md_L gm, .inl (nf rx))), (m7, .inl (cI, md_L gm, .inl (nf ro))), (m8, .inl (cI, 8191, .inl (nf rc))), (m9, .inl (cI, md_R gtm, .inl (nf rf))), (m10, .inl (cI, md_R gtm, .inl (nf rl))), (m11, .inl (cI, md_R gtm, .inl (nf rs)))] H) (hD : va_D A [(x0, .inr (0, [.ref tr, .ref f, .int (nI ck), .long cn])), (tr, .inr (1, [.int (nI nT), .ref y1, .ref y2, .ref y3, .ref y4, .ref y5])), (y1, .inl (cI, hz_R gt, .inl (nf fi))), (y2, .inl (cI, hz_R gt, .inl (nf la))), (y3, .inl (cI, hz_R gt, .inl (nf kc))), (y4, .inl (cI, hz_R gt, .inl (nf vc))), (y5, .inl (cI, hz_R gt, .inl (nf bo))), (f, .inr (2, [.int (nI (aN a)), .ref a1, .ref a2, .ref a3, .ref a4, .ref a5, .ref a6])), (a1, .inl (cI, hz_L g, .inl (nf ow))), (a2, .inl (cL, hz_L g, .inr (.inl ky))), (a3, .inl (cB, hz_L g, .inl (nf kd))), (a4, .inl (cL, hz_L g, .inr (.inl nu))), (a5, .inl (cI, hz_L g, .inl (nf fo))), (a6, .inl (cI, hz_M g, .inl (nf sn))), (mo, .inr (3, [.ref m1, .ref m2, .ref m3, .ref m4, .ref m5, .ref m6, .ref m7, .int (nI (aN a)), .ref m8, .ref m9, .ref m10, .ref m11, .int (nI nT), .int (nI ck), .long cn])), (m1, .inl (cB, md_L gm, .inl (nf rk))), (m2, .inl (cL, md_L gm, .inr (.inl ry))), (m3, .inl (cB, md_L gm, .inl (nf rd))), (m4, .inl (cL, md_L gm, .inr (.inl ru))), (m5, .inl (cI, md_L gm, .inl (nf rt))), (m6, .inl (cI, md_L gm, .inl (nf rx))), (m7, .inl (cI, md_L gm, .inl (nf ro))), (m8, .inl (cI, 8191, .inl (nf rc))), (m9, .inl (cI, md_R gtm, .inl (nf rf))), (m10, .inl (cI, md_R gtm, .inl (nf rl))), (m11, .inl (cI, md_R gtm, .inl (nf rs)))]) (hS : va_S A s.heap H locs) {ls : Array Slot} (hl : lv_has ls 4 [(0, .ref b), (1, .ref x0), (2, .ref mo), (3, .int (nI ix))]) (join_977 : ∀ (x0 : Nat) (tr : Nat) (f : Nat) (y1 : Nat) (y2 : Nat) (y3 : Nat) (y4 : Nat) (y5 : Nat) (a1 : Nat) (a2 : Nat) (a3 : Nat) (a4 : Nat) (a5 : Nat) (a6 : Nat) (ck : Nat) (nT : Nat) (g : Nat) (gt : Nat) (cn : Int64) (a : AS) (fi : Nat → Nat) (la : Nat → Nat) (kc : Nat → Nat) (vc : Nat → Nat) (bo : Nat → Nat) (ow : Nat → Nat) (ky : Nat → Int64) (kd : Nat → Nat) (nu : Nat → Int64) (fo : Nat → Nat) (sn : Nat → Nat) (mo : Nat) (m1 : Nat) (m2 : Nat) (m3 : Nat) (m4 : Nat) (m5 : Nat) (m6 : Nat) (m7 : Nat) (m8 : Nat) (m9 : Nat) (m10 : Nat) (m11 : Nat) (gm : Nat) (gtm : Nat) (rk : Nat → Nat) (ry : Nat → Int64) (rd : Nat → Nat) (ru : Nat → Int64) (rt : Nat → Nat) (rx : Nat → Nat) (ro : Nat → Nat) (rc : Nat → Nat) (rf : Nat → Nat) (rl : Nat → Nat) (rs : Nat → Nat), CI nT a g gt ow ky kd nu fo sn fi la kc vc bo → MI nT a gm gtm rk ry rd ru rt rx ro rc rf rl rs → ∀ (H : Heap) (locs : List Loc), va_P (dC, dI) classes [(x0, .inr (0, [.ref tr, .ref f, .int (nI ck), .long cn])), (tr, .inr (1, [.int (nI nT), .ref y1, .ref y2, .ref y3, .ref y4, .ref y5])), (y1, .inl (cI, hz_R gt, .inl (nf fi))), (y2, .inl (cI, hz_R gt, .inl (nf la))), (y3, .inl (cI, hz_R gt, .inl (nf kc))), (y4, .inl (cI, hz_R gt, .inl (nf vc))), (y5, .inl (cI, hz_R gt, .inl (nf bo))), (f, .inr (2, [.int (nI (aN a)), .ref a1, .ref a2, .ref a3, .ref a4, .ref a5, .ref a6])), (a1, .inl (cI, hz_L g, .inl (nf ow))), (a2, .inl (cL, hz_L g, .inr (.inl ky))), (a3, .inl (cB, hz_L g, .inl (nf kd))), (a4, .inl (cL, hz_L g, .inr (.inl nu))), (a5, .inl (cI, hz_L g, .inl (nf fo))), (a6, .inl (cI, hz_M g, .inl (nf sn))), (mo, .inr (3, [.ref m1, .ref m2, .ref m3, .ref m4, .ref m5, .ref m6, .ref m7, .int (nI (aN a)), .ref m8, .ref m9, .ref m10, .ref m11, .int (nI nT), .int (nI ck), .long cn])), (m1, .inl (cB, md_L gm, .inl (nf rk))), (m2, .inl (cL, md_L gm, .inr (.inl ry))), (m3, .inl (cB, md_L gm, .inl (nf rd))), (m4, .inl (cL, md_L gm, .inr (.inl ru))), (m5, .inl (cI, md_L gm, .inl (nf rt))), (m6, .inl (cI, md_L gm, .inl (nf rx))), (m7, .inl (cI, md_L gm, .inl (nf ro))), (m8, .inl (cI, 8191, .inl (nf rc))), (m9, .inl (cI, md_R gtm, .inl (nf rf))), (m10, .inl (cI, md_R gtm, .inl (nf rl))), (m11, .inl (cI, md_R gtm, .inl (nf rs)))] H → va_D A [(x0, .inr (0, [.ref tr, .ref f, .int (nI ck), .long cn])), (tr, .inr (1, [.int (nI nT), .ref y1, .ref y2, .ref y3, .ref y4, .ref y5])), (y1, .inl (cI, hz_R gt, .inl (nf fi))), (y2, .inl (cI, hz_R gt, .inl (nf la))), (y3, .inl (cI, hz_R gt, .inl (nf kc))), (y4, .inl (cI, hz_R gt, .inl (nf vc))), (y5, .inl (cI, hz_R gt, .inl (nf bo))), (f, .inr (2, [.int (nI (aN a)), .ref a1, .ref a2, .ref a3, .ref a4, .ref a5, .ref a6])), (a1, .inl (cI, hz_L g, .inl (nf ow))), (a2, .inl (cL, hz_L g, .inr (.inl ky))), (a3, .inl (cB, hz_L g, .inl (nf kd))), (a4, .inl (cL, hz_L g, .inr (.inl nu))), (a5, .inl (cI, hz_L g, .inl (nf fo))), (a6, .inl (cI, hz_M g, .inl (nf sn))), (mo, .inr (3, [.ref m1, .ref m2, .ref m3, .ref m4, .ref m5, .ref m6, .ref m7, .int (nI (aN a)), .ref m8, .ref m9, .ref m10, .ref m11, .int (nI nT), .int (nI ck), .long cn])), (m1, .inl (cB, md_L gm, .inl (nf rk))), (m2, .inl (cL, md_L gm, .inr (.inl ry))), (m3, .inl (cB, md_L gm, .inl (nf rd))), (m4, .inl (cL, md_L gm, .inr (.inl ru))), (m5, .inl (cI, md_L gm, .inl (nf rt))), (m6, .inl (cI, md_L gm, .inl (nf rx))), (m7, .inl (cI, md_L gm, .inl (nf ro))), (m8, .inl (cI, 8191, .inl (nf rc))), (m9, .inl (cI, md_R gtm, .inl (nf rf))), (m10, .inl (cI, md_R gtm, .inl (nf rl))), (m11, .inl (cI, md_R gtm, .inl (nf rs)))] → va_S A s.heap H locs → ∀ (ls : Array Slot), lv_has ls 4 [(0, .ref b), (1, .ref x0), (2, .ref mo), (3, .int (nI ix))] → W p l e { frames := 9, cells := 600000, slots := 7302250, locals := 380 } s m [Value.ref b].toArray below meth c H locs (26 + 6 * g + 5 * gt + 7 * gm + 3 * gtm) (9295 + Gs g + Rs gt + Ms gm + Mt gtm) Z (F0 m 977 ls [])) : W p l e { frames := 9, cells := 600000, slots := 7302250, locals := 380 } s m [Value.ref b].toArray below meth c H locs (26 + 6 * g + 5 * gt + 7 * gm + 3 * gtm) (9295 + Gs g + Rs gt + Ms gm + Mt gtm) Z (F0 m 137 ls []) := by
  have hg5 := hCI.1.2.2.1
  have hgt9 := hCI.2.2.1
  have hgm9 := hMI.1.2.2.1
  have hgtm9 := hMI.2.2.1
  have hAI := hCI.1.1
  have hnT := hCI.1.2.1
  have ht1 := Gs_top g hg5
  have ht2 := Rs_top gt hgt9
  have ht3 := Ms_top gm hgm9
  have ht4 := Mt_top gtm hgtm9
  refine lv_aload_n hx hb d_L_law_137 rfl (lv_at hl 1 rfl) ?_
  refine lv_aload_n hx hb d_L_law_138 rfl (lv_at hl 0 rfl) ?_
  refine lv_iload_n hx hb d_L_law_139 rfl (lv_at hl 3 rfl) ?_
  refine lv_iconst (v := nI 1) hx hb d_L_law_140 (by decide) ?_
  refine lv_iadd hx hb d_L_law_141 ?_
  refine fz_eqi (y := nI (ix + 1)) (nI_add ix 1) ?_
  refine fz_sld hx hb hX hbl hbA hS (j := ix + 1) (by omega) hL d_L_law_142 ?_
  refine lv_aload_n hx hb d_L_law_143 rfl (lv_at hl 0 rfl) ?_
  refine lv_iload_n hx hb d_L_law_144 rfl (lv_at hl 3 rfl) ?_
  refine lv_iconst (v := nI 2) hx hb d_L_law_145 (by decide) ?_
  refine lv_iadd hx hb d_L_law_146 ?_
  refine fz_eqi (y := nI (ix + 2)) (nI_add ix 2) ?_
  refine fz_sld hx hb hX hbl hbA hS (j := ix + 2) (by omega) hL d_L_law_147 ?_
  refine lv_aload_n hx hb d_L_law_148 rfl (lv_at hl 0 rfl) ?_
  refine lv_iload_n hx hb d_L_law_149 rfl (lv_at hl 3 rfl) ?_
  refine lv_iconst (v := nI 3) hx hb d_L_law_150 (by decide) ?_
  refine lv_iadd hx hb d_L_law_151 ?_
  refine fz_eqi (y := nI (ix + 3)) (nI_add ix 3) ?_
  refine fz_sld hx hb hX hbl hbA hS (j := ix + 3) (by omega) hL d_L_law_152 ?_
  refine lv_i2l hx hb d_L_law_153 rfl ?_
  refine lv_bipush (v := nI 32) hx hb d_L_law_154 (by decide) ?_
  refine lv_lshl hx hb d_L_law_156 rfl ?_
  refine lv_aload_n hx hb d_L_law_157 rfl (lv_at hl 0 rfl) ?_
  refine lv_iload_n hx hb d_L_law_158 rfl (lv_at hl 3 rfl) ?_
  refine lv_iconst (v := nI 4) hx hb d_L_law_159 (by decide) ?_
  refine lv_iadd hx hb d_L_law_160 ?_
  refine fz_eqi (y := nI (ix + 4)) (nI_add ix 4) ?_
  refine fz_sld hx hb hX hbl hbA hS (j := ix + 4) (by omega) hL d_L_law_161 ?_
  refine lv_i2l hx hb d_L_law_162 rfl ?_
  refine lv_ldc2 (v := 4294967295) hx hb hown (hw _ m_544) d_L_law_163 ?_
  refine fz_eql (y := lN 4294967295) (by decide) ?_
  refine lv_land hx hb d_L_law_166 ?_
  refine lv_lor hx hb d_L_law_167 ?_
  refine lv_topl (fun q1 eq1 => ?_)
  refine lv_aload_n hx hb d_L_law_168 rfl (lv_at hl 0 rfl) ?_
  refine lv_iload_n hx hb d_L_law_169 rfl (lv_at hl 3 rfl) ?_
  refine lv_iconst (v := nI 5) hx hb d_L_law_170 (by decide) ?_
  refine lv_iadd hx hb d_L_law_171 ?_
  refine fz_eqi (y := nI (ix + 5)) (nI_add ix 5) ?_
  refine fz_sld hx hb hX hbl hbA hS (j := ix + 5) (by omega) hL d_L_law_172 ?_
  refine lv_aload_n hx hb d_L_law_173 rfl (lv_at hl 0 rfl) ?_
  refine lv_iload_n hx hb d_L_law_174 rfl (lv_at hl 3 rfl) ?_
  refine lv_bipush (v := nI 6) hx hb d_L_law_175 (by decide) ?_
  refine lv_iadd hx hb d_L_law_177 ?_
  refine fz_eqi (y := nI (ix + 6)) (nI_add ix 6) ?_
  refine fz_sld hx hb hX hbl hbA hS (j := ix + 6) (by omega) hL d_L_law_178 ?_
  refine lv_i2l hx hb d_L_law_179 rfl ?_
  refine lv_bipush (v := nI 32) hx hb d_L_law_180 (by decide) ?_
  refine lv_lshl hx hb d_L_law_182 rfl ?_
  refine lv_aload_n hx hb d_L_law_183 rfl (lv_at hl 0 rfl) ?_
  refine lv_iload_n hx hb d_L_law_184 rfl (lv_at hl 3 rfl) ?_
  refine lv_bipush (v := nI 7) hx hb d_L_law_185 (by decide) ?_
  refine lv_iadd hx hb d_L_law_187 ?_
  refine fz_eqi (y := nI (ix + 7)) (nI_add ix 7) ?_
  refine fz_sld hx hb hX hbl hbA hS (j := ix + 7) (by omega) hL d_L_law_188 ?_
  refine lv_i2l hx hb d_L_law_189 rfl ?_
  refine lv_ldc2 (v := 4294967295) hx hb hown (hw _ m_544) d_L_law_190 ?_
  refine fz_eql (y := lN 4294967295) (by decide) ?_
  refine lv_land hx hb d_L_law_193 ?_
  refine lv_lor hx hb d_L_law_194 ?_
  refine lv_topl (fun q2 eq2 => ?_)
  have hN1 := fPut_le hAI (xs (ix + 1)) (xs (ix + 2)) q1 (xs (ix + 5)) q2
  have hG1 := gF_spec (g := g) (n := aN (fPut nT a (xs (ix + 1)) (xs (ix + 2)) q1 (xs (ix + 5)) q2).2) hg5 hN1
  have hG2 := Gs_top _ hG1.2.1
  have hG3 := Gs_mono hG1.1
  refine StdI.callV (ci := 0) (q0 := 0) (wr := [(mo, .inr (3, [.ref m1, .ref m2, .ref m3, .ref m4, .ref m5, .ref m6, .ref m7, .int (nI (aN a)), .ref m8, .ref m9, .ref m10, .ref m11, .int (nI nT), .int (nI ck), .long cn])), (m1, .inl (cB, md_L gm, .inl (nf rk))), (m2, .inl (cL, md_L gm, .inr (.inl ry))), (m3, .inl (cB, md_L gm, .inl (nf rd))), (m4, .inl (cL, md_L gm, .inr (.inl ru))), (m5, .inl (cI, md_L gm, .inl (nf rt))), (m6, .inl (cI, md_L gm, .inl (nf rx))), (m7, .inl (cI, md_L gm, .inl (nf ro))), (m8, .inl (cI, 8191, .inl (nf rc))), (m9, .inl (cI, md_R gtm, .inl (nf rf))), (m10, .inl (cI, md_R gtm, .inl (nf rl))), (m11, .inl (cI, md_R gtm, .inl (nf rs)))]) (c_put l dC dI cI cL cB x0 tr f y1 y2 y3 y4 y5 a1 a2 a3 a4 a5 a6 ck nT g gt cn a fi la kc vc bo ow ky kd nu fo sn (xs (ix + 1)) (xs (ix + 2)) q1 (xs (ix + 5)) q2 hCI) ⟨hx, hb, hml, hown, hw⟩ (fz_cwV 5 hw m_128 m_125 m_126 m_127 m_1 rfl rfl (by decide +kernel) ⟨Nat.le_of_ble_eq_true rfl, Nat.le_of_ble_eq_true rfl⟩) hK hP hD hS hA [0, 1, 2, 3, 4, 5, 6, 7, 8, 9, 10, 11, 12, 13] [14, 15, 16, 17, 18, 19, 20, 21, 22, 23, 24, 25] rfl rfl (by decide) (by decide) (by decide) rfl rfl rfl rfl hl.1 rfl (Nat.le_of_ble_eq_true rfl) d_L_law_195 ⟨(by (try dsimp only); omega), (by (try dsimp only); omega)⟩ (fun r195 u195 H locs h195 hP hD hS => ?_)
  obtain ⟨b1195, b2195, b3195, b4195, b5195, b6195, fi2195, la2195, kc2195, vc2195, bo2195, ow2195, ky2195, kd2195, nu2195, fo2195, sn2195⟩ := u195
  try dsimp only at h195
  have hP : va_P (dC, dI) classes [(mo, .inr (3, [.ref m1, .ref m2, .ref m3, .ref m4, .ref m5, .ref m6, .ref m7, .int (nI (aN a)), .ref m8, .ref m9, .ref m10, .ref m11, .int (nI nT), .int (nI ck), .long cn])), (m1, .inl (cB, md_L gm, .inl (nf rk))), (m2, .inl (cL, md_L gm, .inr (.inl ry))), (m3, .inl (cB, md_L gm, .inl (nf rd))), (m4, .inl (cL, md_L gm, .inr (.inl ru))), (m5, .inl (cI, md_L gm, .inl (nf rt))), (m6, .inl (cI, md_L gm, .inl (nf rx))), (m7, .inl (cI, md_L gm, .inl (nf ro))), (m8, .inl (cI, 8191, .inl (nf rc))), (m9, .inl (cI, md_R gtm, .inl (nf rf))), (m10, .inl (cI, md_R gtm, .inl (nf rl))), (m11, .inl (cI, md_R gtm, .inl (nf rs))), (x0, .inr (0, [.ref tr, .ref f, .int (nI ck), .long cn])), (tr, .inr (1, [.int (nI nT), .ref y1, .ref y2, .ref y3, .ref y4, .ref y5])), (y1, .inl (cI, hz_R gt, .inl (nf fi2195))), (y2, .inl (cI, hz_R gt, .inl (nf la2195))), (y3, .inl (cI, hz_R gt, .inl (nf kc2195))), (y4, .inl (cI, hz_R gt, .inl (nf vc2195))), (y5, .inl (cI, hz_R gt, .inl (nf bo2195))), (f, .inr (2, [.int (nI (aN ((fPut nT a (xs (ix + 1)) (xs (ix + 2)) q1 (xs (ix + 5)) q2).2))), .ref b1195, .ref b2195, .ref b3195, .ref b4195, .ref b5195, .ref b6195])), (b1195, .inl (cI, hz_L (gF g (aN ((fPut nT a (xs (ix + 1)) (xs (ix + 2)) q1 (xs (ix + 5)) q2).2))), .inl (nf ow2195))), (b2195, .inl (cL, hz_L (gF g (aN ((fPut nT a (xs (ix + 1)) (xs (ix + 2)) q1 (xs (ix + 5)) q2).2))), .inr (.inl ky2195))), (b3195, .inl (cB, hz_L (gF g (aN ((fPut nT a (xs (ix + 1)) (xs (ix + 2)) q1 (xs (ix + 5)) q2).2))), .inl (nf kd2195))), (b4195, .inl (cL, hz_L (gF g (aN ((fPut nT a (xs (ix + 1)) (xs (ix + 2)) q1 (xs (ix + 5)) q2).2))), .inr (.inl nu2195))), (b5195, .inl (cI, hz_L (gF g (aN ((fPut nT a (xs (ix + 1)) (xs (ix + 2)) q1 (xs (ix + 5)) q2).2))), .inl (nf fo2195))), (b6195, .inl (cI, hz_M (gF g (aN ((fPut nT a (xs (ix + 1)) (xs (ix + 2)) q1 (xs (ix + 5)) q2).2))), .inl (nf sn2195)))] H := hP
  have hD : va_D A [(mo, .inr (3, [.ref m1, .ref m2, .ref m3, .ref m4, .ref m5, .ref m6, .ref m7, .int (nI (aN a)), .ref m8, .ref m9, .ref m10, .ref m11, .int (nI nT), .int (nI ck), .long cn])), (m1, .inl (cB, md_L gm, .inl (nf rk))), (m2, .inl (cL, md_L gm, .inr (.inl ry))), (m3, .inl (cB, md_L gm, .inl (nf rd))), (m4, .inl (cL, md_L gm, .inr (.inl ru))), (m5, .inl (cI, md_L gm, .inl (nf rt))), (m6, .inl (cI, md_L gm, .inl (nf rx))), (m7, .inl (cI, md_L gm, .inl (nf ro))), (m8, .inl (cI, 8191, .inl (nf rc))), (m9, .inl (cI, md_R gtm, .inl (nf rf))), (m10, .inl (cI, md_R gtm, .inl (nf rl))), (m11, .inl (cI, md_R gtm, .inl (nf rs))), (x0, .inr (0, [.ref tr, .ref f, .int (nI ck), .long cn])), (tr, .inr (1, [.int (nI nT), .ref y1, .ref y2, .ref y3, .ref y4, .ref y5])), (y1, .inl (cI, hz_R gt, .inl (nf fi2195))), (y2, .inl (cI, hz_R gt, .inl (nf la2195))), (y3, .inl (cI, hz_R gt, .inl (nf kc2195))), (y4, .inl (cI, hz_R gt, .inl (nf vc2195))), (y5, .inl (cI, hz_R gt, .inl (nf bo2195))), (f, .inr (2, [.int (nI (aN ((fPut nT a (xs (ix + 1)) (xs (ix + 2)) q1 (xs (ix + 5)) q2).2))), .ref b1195, .ref b2195, .ref b3195, .ref b4195, .ref b5195, .ref b6195])), (b1195, .inl (cI, hz_L (gF g (aN ((fPut nT a (xs (ix + 1)) (xs (ix + 2)) q1 (xs (ix + 5)) q2).2))), .inl (nf ow2195))), (b2195, .inl (cL, hz_L (gF g (aN ((fPut nT a (xs (ix + 1)) (xs (ix + 2)) q1 (xs (ix + 5)) q2).2))), .inr (.inl ky2195))), (b3195, .inl (cB, hz_L (gF g (aN ((fPut nT a (xs (ix + 1)) (xs (ix + 2)) q1 (xs (ix + 5)) q2).2))), .inl (nf kd2195))), (b4195, .inl (cL, hz_L (gF g (aN ((fPut nT a (xs (ix + 1)) (xs (ix + 2)) q1 (xs (ix + 5)) q2).2))), .inr (.inl nu2195))), (b5195, .inl (cI, hz_L (gF g (aN ((fPut nT a (xs (ix + 1)) (xs (ix + 2)) q1 (xs (ix + 5)) q2).2))), .inl (nf fo2195))), (b6195, .inl (cI, hz_M (gF g (aN ((fPut nT a (xs (ix + 1)) (xs (ix + 2)) q1 (xs (ix + 5)) q2).2))), .inl (nf sn2195)))] := hD
  refine W.widen (k := (26 + 6 * g + 5 * gt + 7 * gm + 3 * gtm) + (6 * (gF g (aN ((fPut nT a (xs (ix + 1)) (xs (ix + 2)) q1 (xs (ix + 5)) q2).2)) - g))) (n := (9295 + Gs g + Rs gt + Ms gm + Mt gtm) + (Gs (gF g (aN ((fPut nT a (xs (ix + 1)) (xs (ix + 2)) q1 (xs (ix + 5)) q2).2))) - Gs g)) (by omega) (by omega) ?_
  obtain ⟨e195, h195⟩ := h195
  refine lv_aload_n hx hb d_L_law_198 rfl (lv_at hl 2 rfl) ?_
  refine lv_aload_n hx hb d_L_law_199 rfl (lv_at hl 0 rfl) ?_
  refine lv_iload_n hx hb d_L_law_200 rfl (lv_at hl 3 rfl) ?_
  refine lv_iconst (v := nI 1) hx hb d_L_law_201 (by decide) ?_
  refine lv_iadd hx hb d_L_law_202 ?_
  refine fz_eqi (y := nI (ix + 1)) (nI_add ix 1) ?_
  refine fz_sld hx hb hX hbl hbA hS (j := ix + 1) (by omega) hL d_L_law_203 ?_
  refine lv_aload_n hx hb d_L_law_204 rfl (lv_at hl 0 rfl) ?_
  refine lv_iload_n hx hb d_L_law_205 rfl (lv_at hl 3 rfl) ?_
  refine lv_iconst (v := nI 2) hx hb d_L_law_206 (by decide) ?_
  refine lv_iadd hx hb d_L_law_207 ?_
  refine fz_eqi (y := nI (ix + 2)) (nI_add ix 2) ?_
  refine fz_sld hx hb hX hbl hbA hS (j := ix + 2) (by omega) hL d_L_law_208 ?_
  refine lv_aload_n hx hb d_L_law_209 rfl (lv_at hl 0 rfl) ?_
  refine lv_iload_n hx hb d_L_law_210 rfl (lv_at hl 3 rfl) ?_
  refine lv_iconst (v := nI 3) hx hb d_L_law_211 (by decide) ?_
  refine lv_iadd hx hb d_L_law_212 ?_
  refine fz_eqi (y := nI (ix + 3)) (nI_add ix 3) ?_
  refine fz_sld hx hb hX hbl hbA hS (j := ix + 3) (by omega) hL d_L_law_213 ?_
  refine lv_i2l hx hb d_L_law_214 rfl ?_
  refine lv_bipush (v := nI 32) hx hb d_L_law_215 (by decide) ?_
  refine lv_lshl hx hb d_L_law_217 rfl ?_
  refine lv_aload_n hx hb d_L_law_218 rfl (lv_at hl 0 rfl) ?_
  refine lv_iload_n hx hb d_L_law_219 rfl (lv_at hl 3 rfl) ?_
  refine lv_iconst (v := nI 4) hx hb d_L_law_220 (by decide) ?_
  refine lv_iadd hx hb d_L_law_221 ?_
  refine fz_eqi (y := nI (ix + 4)) (nI_add ix 4) ?_
  refine fz_sld hx hb hX hbl hbA hS (j := ix + 4) (by omega) hL d_L_law_222 ?_
  refine lv_i2l hx hb d_L_law_223 rfl ?_
  refine lv_ldc2 (v := 4294967295) hx hb hown (hw _ m_544) d_L_law_224 ?_
  refine fz_eql (y := lN 4294967295) (by decide) ?_
  refine lv_land hx hb d_L_law_227 ?_
  refine lv_lor hx hb d_L_law_228 ?_
  refine fz_eql (y := q1) (eq1.symm) ?_
  refine lv_aload_n hx hb d_L_law_229 rfl (lv_at hl 0 rfl) ?_
  refine lv_iload_n hx hb d_L_law_230 rfl (lv_at hl 3 rfl) ?_
  refine lv_iconst (v := nI 5) hx hb d_L_law_231 (by decide) ?_
  refine lv_iadd hx hb d_L_law_232 ?_
  refine fz_eqi (y := nI (ix + 5)) (nI_add ix 5) ?_
  refine fz_sld hx hb hX hbl hbA hS (j := ix + 5) (by omega) hL d_L_law_233 ?_
  refine lv_aload_n hx hb d_L_law_234 rfl (lv_at hl 0 rfl) ?_
  refine lv_iload_n hx hb d_L_law_235 rfl (lv_at hl 3 rfl) ?_
  refine lv_bipush (v := nI 6) hx hb d_L_law_236 (by decide) ?_
  refine lv_iadd hx hb d_L_law_238 ?_
  refine fz_eqi (y := nI (ix + 6)) (nI_add ix 6) ?_
  refine fz_sld hx hb hX hbl hbA hS (j := ix + 6) (by omega) hL d_L_law_239 ?_
  refine lv_i2l hx hb d_L_law_240 rfl ?_
  refine lv_bipush (v := nI 32) hx hb d_L_law_241 (by decide) ?_
  refine lv_lshl hx hb d_L_law_243 rfl ?_
  refine lv_aload_n hx hb d_L_law_244 rfl (lv_at hl 0 rfl) ?_
  refine lv_iload_n hx hb d_L_law_245 rfl (lv_at hl 3 rfl) ?_
  refine lv_bipush (v := nI 7) hx hb d_L_law_246 (by decide) ?_
  refine lv_iadd hx hb d_L_law_248 ?_
  refine fz_eqi (y := nI (ix + 7)) (nI_add ix 7) ?_
  refine fz_sld hx hb hX hbl hbA hS (j := ix + 7) (by omega) hL d_L_law_249 ?_
  refine lv_i2l hx hb d_L_law_250 rfl ?_
  refine lv_ldc2 (v := 4294967295) hx hb hown (hw _ m_544) d_L_law_251 ?_
  refine fz_eql (y := lN 4294967295) (by decide) ?_
  refine lv_land hx hb d_L_law_254 ?_
  refine lv_lor hx hb d_L_law_255 ?_
  refine fz_eql (y := q2) (eq2.symm) ?_
  have hM1 := mF_spec (g := gm) (n := aN (fPut nT a (xs (ix + 1)) (xs (ix + 2)) q1 (xs (ix + 5)) q2).2) hgm9 hN1
  have hM2 := Ms_top _ hM1.2.1
  have hM3 := Ms_mono hM1.1
  refine StdI.callV (ci := 3) (q0 := 0) (wr := [(x0, .inr (0, [.ref tr, .ref f, .int (nI ck), .long cn])), (tr, .inr (1, [.int (nI nT), .ref y1, .ref y2, .ref y3, .ref y4, .ref y5])), (y1, .inl (cI, hz_R gt, .inl (nf fi2195))), (y2, .inl (cI, hz_R gt, .inl (nf la2195))), (y3, .inl (cI, hz_R gt, .inl (nf kc2195))), (y4, .inl (cI, hz_R gt, .inl (nf vc2195))), (y5, .inl (cI, hz_R gt, .inl (nf bo2195))), (f, .inr (2, [.int (nI (aN ((fPut nT a (xs (ix + 1)) (xs (ix + 2)) q1 (xs (ix + 5)) q2).2))), .ref b1195, .ref b2195, .ref b3195, .ref b4195, .ref b5195, .ref b6195])), (b1195, .inl (cI, hz_L (gF g (aN ((fPut nT a (xs (ix + 1)) (xs (ix + 2)) q1 (xs (ix + 5)) q2).2))), .inl (nf ow2195))), (b2195, .inl (cL, hz_L (gF g (aN ((fPut nT a (xs (ix + 1)) (xs (ix + 2)) q1 (xs (ix + 5)) q2).2))), .inr (.inl ky2195))), (b3195, .inl (cB, hz_L (gF g (aN ((fPut nT a (xs (ix + 1)) (xs (ix + 2)) q1 (xs (ix + 5)) q2).2))), .inl (nf kd2195))), (b4195, .inl (cL, hz_L (gF g (aN ((fPut nT a (xs (ix + 1)) (xs (ix + 2)) q1 (xs (ix + 5)) q2).2))), .inr (.inl nu2195))), (b5195, .inl (cI, hz_L (gF g (aN ((fPut nT a (xs (ix + 1)) (xs (ix + 2)) q1 (xs (ix + 5)) q2).2))), .inl (nf fo2195))), (b6195, .inl (cI, hz_M (gF g (aN ((fPut nT a (xs (ix + 1)) (xs (ix + 2)) q1 (xs (ix + 5)) q2).2))), .inl (nf sn2195)))]) (m_put l dC dI cI cL cB mo m1 m2 m3 m4 m5 m6 m7 m8 m9 m10 m11 ck nT gm gtm cn a rk ry rd ru rt rx ro rc rf rl rs (xs (ix + 1)) (xs (ix + 2)) q1 (xs (ix + 5)) q2 hMI) ⟨hx, hb, hml, hown, hw⟩ (fz_cwV 5 hw m_418 m_415 m_416 m_417 m_4 rfl rfl (by decide +kernel) ⟨Nat.le_of_ble_eq_true rfl, Nat.le_of_ble_eq_true rfl⟩) hK hP hD hS hA [0, 1, 2, 3, 4, 5, 6, 7, 8, 9, 10, 11] [12, 13, 14, 15, 16, 17, 18, 19, 20, 21, 22, 23, 24, 25] rfl rfl (by decide) (by decide) (by decide) rfl rfl rfl rfl hl.1 rfl (Nat.le_of_ble_eq_true rfl) d_L_law_256 ⟨(by (try dsimp only); omega), (by (try dsimp only); omega)⟩ (fun r256 u256 H locs h256 hP hD hS => ?_)
  obtain ⟨u1256, u2256, u3256, u4256, u5256, u6256, u7256, kk2256, ky2256, kd2256, nu2256, tb2256, nx2256, ot2256, ch2256, fi2256, la2256, sz2256⟩ := u256
  try dsimp only at h256
  have hP : va_P (dC, dI) classes [(x0, .inr (0, [.ref tr, .ref f, .int (nI ck), .long cn])), (tr, .inr (1, [.int (nI nT), .ref y1, .ref y2, .ref y3, .ref y4, .ref y5])), (y1, .inl (cI, hz_R gt, .inl (nf fi2195))), (y2, .inl (cI, hz_R gt, .inl (nf la2195))), (y3, .inl (cI, hz_R gt, .inl (nf kc2195))), (y4, .inl (cI, hz_R gt, .inl (nf vc2195))), (y5, .inl (cI, hz_R gt, .inl (nf bo2195))), (f, .inr (2, [.int (nI (aN ((fPut nT a (xs (ix + 1)) (xs (ix + 2)) q1 (xs (ix + 5)) q2).2))), .ref b1195, .ref b2195, .ref b3195, .ref b4195, .ref b5195, .ref b6195])), (b1195, .inl (cI, hz_L (gF g (aN ((fPut nT a (xs (ix + 1)) (xs (ix + 2)) q1 (xs (ix + 5)) q2).2))), .inl (nf ow2195))), (b2195, .inl (cL, hz_L (gF g (aN ((fPut nT a (xs (ix + 1)) (xs (ix + 2)) q1 (xs (ix + 5)) q2).2))), .inr (.inl ky2195))), (b3195, .inl (cB, hz_L (gF g (aN ((fPut nT a (xs (ix + 1)) (xs (ix + 2)) q1 (xs (ix + 5)) q2).2))), .inl (nf kd2195))), (b4195, .inl (cL, hz_L (gF g (aN ((fPut nT a (xs (ix + 1)) (xs (ix + 2)) q1 (xs (ix + 5)) q2).2))), .inr (.inl nu2195))), (b5195, .inl (cI, hz_L (gF g (aN ((fPut nT a (xs (ix + 1)) (xs (ix + 2)) q1 (xs (ix + 5)) q2).2))), .inl (nf fo2195))), (b6195, .inl (cI, hz_M (gF g (aN ((fPut nT a (xs (ix + 1)) (xs (ix + 2)) q1 (xs (ix + 5)) q2).2))), .inl (nf sn2195))), (mo, .inr (3, [.ref u1256, .ref u2256, .ref u3256, .ref u4256, .ref u5256, .ref u6256, .ref u7256, .int (nI (aN ((fPut nT a (xs (ix + 1)) (xs (ix + 2)) q1 (xs (ix + 5)) q2).2))), .ref m8, .ref m9, .ref m10, .ref m11, .int (nI nT), .int (nI ck), .long cn])), (u1256, .inl (cB, md_L (mF gm (aN ((fPut nT a (xs (ix + 1)) (xs (ix + 2)) q1 (xs (ix + 5)) q2).2))), .inl (nf kk2256))), (u2256, .inl (cL, md_L (mF gm (aN ((fPut nT a (xs (ix + 1)) (xs (ix + 2)) q1 (xs (ix + 5)) q2).2))), .inr (.inl ky2256))), (u3256, .inl (cB, md_L (mF gm (aN ((fPut nT a (xs (ix + 1)) (xs (ix + 2)) q1 (xs (ix + 5)) q2).2))), .inl (nf kd2256))), (u4256, .inl (cL, md_L (mF gm (aN ((fPut nT a (xs (ix + 1)) (xs (ix + 2)) q1 (xs (ix + 5)) q2).2))), .inr (.inl nu2256))), (u5256, .inl (cI, md_L (mF gm (aN ((fPut nT a (xs (ix + 1)) (xs (ix + 2)) q1 (xs (ix + 5)) q2).2))), .inl (nf tb2256))), (u6256, .inl (cI, md_L (mF gm (aN ((fPut nT a (xs (ix + 1)) (xs (ix + 2)) q1 (xs (ix + 5)) q2).2))), .inl (nf nx2256))), (u7256, .inl (cI, md_L (mF gm (aN ((fPut nT a (xs (ix + 1)) (xs (ix + 2)) q1 (xs (ix + 5)) q2).2))), .inl (nf ot2256))), (m8, .inl (cI, 8191, .inl (nf ch2256))), (m9, .inl (cI, md_R gtm, .inl (nf fi2256))), (m10, .inl (cI, md_R gtm, .inl (nf la2256))), (m11, .inl (cI, md_R gtm, .inl (nf sz2256)))] H := hP
  have hD : va_D A [(x0, .inr (0, [.ref tr, .ref f, .int (nI ck), .long cn])), (tr, .inr (1, [.int (nI nT), .ref y1, .ref y2, .ref y3, .ref y4, .ref y5])), (y1, .inl (cI, hz_R gt, .inl (nf fi2195))), (y2, .inl (cI, hz_R gt, .inl (nf la2195))), (y3, .inl (cI, hz_R gt, .inl (nf kc2195))), (y4, .inl (cI, hz_R gt, .inl (nf vc2195))), (y5, .inl (cI, hz_R gt, .inl (nf bo2195))), (f, .inr (2, [.int (nI (aN ((fPut nT a (xs (ix + 1)) (xs (ix + 2)) q1 (xs (ix + 5)) q2).2))), .ref b1195, .ref b2195, .ref b3195, .ref b4195, .ref b5195, .ref b6195])), (b1195, .inl (cI, hz_L (gF g (aN ((fPut nT a (xs (ix + 1)) (xs (ix + 2)) q1 (xs (ix + 5)) q2).2))), .inl (nf ow2195))), (b2195, .inl (cL, hz_L (gF g (aN ((fPut nT a (xs (ix + 1)) (xs (ix + 2)) q1 (xs (ix + 5)) q2).2))), .inr (.inl ky2195))), (b3195, .inl (cB, hz_L (gF g (aN ((fPut nT a (xs (ix + 1)) (xs (ix + 2)) q1 (xs (ix + 5)) q2).2))), .inl (nf kd2195))), (b4195, .inl (cL, hz_L (gF g (aN ((fPut nT a (xs (ix + 1)) (xs (ix + 2)) q1 (xs (ix + 5)) q2).2))), .inr (.inl nu2195))), (b5195, .inl (cI, hz_L (gF g (aN ((fPut nT a (xs (ix + 1)) (xs (ix + 2)) q1 (xs (ix + 5)) q2).2))), .inl (nf fo2195))), (b6195, .inl (cI, hz_M (gF g (aN ((fPut nT a (xs (ix + 1)) (xs (ix + 2)) q1 (xs (ix + 5)) q2).2))), .inl (nf sn2195))), (mo, .inr (3, [.ref u1256, .ref u2256, .ref u3256, .ref u4256, .ref u5256, .ref u6256, .ref u7256, .int (nI (aN ((fPut nT a (xs (ix + 1)) (xs (ix + 2)) q1 (xs (ix + 5)) q2).2))), .ref m8, .ref m9, .ref m10, .ref m11, .int (nI nT), .int (nI ck), .long cn])), (u1256, .inl (cB, md_L (mF gm (aN ((fPut nT a (xs (ix + 1)) (xs (ix + 2)) q1 (xs (ix + 5)) q2).2))), .inl (nf kk2256))), (u2256, .inl (cL, md_L (mF gm (aN ((fPut nT a (xs (ix + 1)) (xs (ix + 2)) q1 (xs (ix + 5)) q2).2))), .inr (.inl ky2256))), (u3256, .inl (cB, md_L (mF gm (aN ((fPut nT a (xs (ix + 1)) (xs (ix + 2)) q1 (xs (ix + 5)) q2).2))), .inl (nf kd2256))), (u4256, .inl (cL, md_L (mF gm (aN ((fPut nT a (xs (ix + 1)) (xs (ix + 2)) q1 (xs (ix + 5)) q2).2))), .inr (.inl nu2256))), (u5256, .inl (cI, md_L (mF gm (aN ((fPut nT a (xs (ix + 1)) (xs (ix + 2)) q1 (xs (ix + 5)) q2).2))), .inl (nf tb2256))), (u6256, .inl (cI, md_L (mF gm (aN ((fPut nT a (xs (ix + 1)) (xs (ix + 2)) q1 (xs (ix + 5)) q2).2))), .inl (nf nx2256))), (u7256, .inl (cI, md_L (mF gm (aN ((fPut nT a (xs (ix + 1)) (xs (ix + 2)) q1 (xs (ix + 5)) q2).2))), .inl (nf ot2256))), (m8, .inl (cI, 8191, .inl (nf ch2256))), (m9, .inl (cI, md_R gtm, .inl (nf fi2256))), (m10, .inl (cI, md_R gtm, .inl (nf la2256))), (m11, .inl (cI, md_R gtm, .inl (nf sz2256)))] := hD
  refine W.widen (k := ((26 + 6 * g + 5 * gt + 7 * gm + 3 * gtm) + (6 * (gF g (aN ((fPut nT a (xs (ix + 1)) (xs (ix + 2)) q1 (xs (ix + 5)) q2).2)) - g))) + (7 * (mF gm (aN ((fPut nT a (xs (ix + 1)) (xs (ix + 2)) q1 (xs (ix + 5)) q2).2)) - gm))) (n := ((9295 + Gs g + Rs gt + Ms gm + Mt gtm) + (Gs (gF g (aN ((fPut nT a (xs (ix + 1)) (xs (ix + 2)) q1 (xs (ix + 5)) q2).2))) - Gs g)) + (Ms (mF gm (aN ((fPut nT a (xs (ix + 1)) (xs (ix + 2)) q1 (xs (ix + 5)) q2).2))) - Ms gm)) (by omega) (by omega) ?_
  obtain ⟨e256, h256⟩ := h256
  refine lv_icmp_eq (tgt := 977) hx hb d_L_law_259 (by decide) (fun c259 => ?_) (fun c259 => ?_)
  · refine W.widen (k := 26 + 6 * (gF g (aN ((fPut nT a (xs (ix + 1)) (xs (ix + 2)) q1 (xs (ix + 5)) q2).2))) + 5 * gt + 7 * (mF gm (aN ((fPut nT a (xs (ix + 1)) (xs (ix + 2)) q1 (xs (ix + 5)) q2).2))) + 3 * gtm) (n := 9295 + Gs (gF g (aN ((fPut nT a (xs (ix + 1)) (xs (ix + 2)) q1 (xs (ix + 5)) q2).2))) + Rs gt + Ms (mF gm (aN ((fPut nT a (xs (ix + 1)) (xs (ix + 2)) q1 (xs (ix + 5)) q2).2))) + Mt gtm) (by omega) (by omega) ?_
    exact join_977 x0 tr f y1 y2 y3 y4 y5 b1195 b2195 b3195 b4195 b5195 b6195 ck nT (gF g (aN ((fPut nT a (xs (ix + 1)) (xs (ix + 2)) q1 (xs (ix + 5)) q2).2))) gt cn ((fPut nT a (xs (ix + 1)) (xs (ix + 2)) q1 (xs (ix + 5)) q2).2) fi2195 la2195 kc2195 vc2195 bo2195 ow2195 ky2195 kd2195 nu2195 fo2195 sn2195 mo u1256 u2256 u3256 u4256 u5256 u6256 u7256 m8 m9 m10 m11 (mF gm (aN ((fPut nT a (xs (ix + 1)) (xs (ix + 2)) q1 (xs (ix + 5)) q2).2))) gtm kk2256 ky2256 kd2256 nu2256 tb2256 nx2256 ot2256 ch2256 fi2256 la2256 sz2256 h195 h256  _ _ hP hD hS ls (lv_sub hl [0, 1, 2, 3] rfl)
  · exact absurd (by rw [e195, e256]) c259
