set_option maxHeartbeats 4000000 in
set_option maxRecDepth 100000 in
/-- twice -/
theorem c_twice (l : Launch) (dC : Nat → ClassId) (dI : Nat → Nat → Nat) (cI cL cB : ClassId) (q : Nat) (n : Nat) (fn : Nat → Nat) (hn : n < 2 ^ 18) : StdR l y_M_twice (wd y_M_twice b_M_twice 2 (some (.array .int))) 1 28 1 (2 * n) (dC, dI) classes (tyK cI cL cB) [.ref q] [(q, .inl (cI, n, .inl (nf fn)))] (fun (r : Nat) (u : Unit) => True) (fun (u : Unit) (r : Nat) => [(q, .inl (cI, n, .inl (nf fn))), (r, .inl (cI, 2 * n, .inl (nf (cpz fn (fun _ => 0) n))))]) := by
  refine StdR.mk (cc := b_M_twice) (maxL := 2) (Or.inr ⟨_, rfl⟩) (by decide) rfl (Nat.le_of_ble_eq_true rfl) ?_
  intro p e s m below meth c A Z ls hx hb hml hown hts hin hP hK hD hA hS hret hl
  have hown : s.vm.findClass R_M = some m.cls := hown
  have hw : ∀ x ∈ WALL, x.before _ s = true := fun x h => hts x (List.mem_cons_of_mem _ h)
  have hl : lv_has ls 2 [(0, .ref q)] := hl
  refine lv_iconst (v := nI 2) hx hb d_M_twice_0 (by decide) ?_
  refine lv_aload_n hx hb d_M_twice_1 rfl (lv_at hl 0 rfl) ?_
  refine fz_alen hx hb hK hP 0 0 rfl rfl d_M_twice_2 ?_
  refine lv_imul hx hb d_M_twice_3 ?_
  refine fz_eqi (y := nI (2 * n)) (pk_mul 2 n) ?_
  refine fz_newi hx hb (hw _ m_47) hK 0 rfl hP hD hS hA (by omega) (by (try dsimp only); omega) (by (try dsimp only); omega) d_M_twice_4 (fun q_1 H hP hD hS => ?_)
  have hP : va_P (dC, dI) classes [(q, .inl (cI, n, .inl (nf fn))), (q_1, .inl (cI, 2 * n, .inl (nf (fun _ => 0))))] H := hP
  have hD : va_D A [(q, .inl (cI, n, .inl (nf fn))), (q_1, .inl (cI, 2 * n, .inl (nf (fun _ => 0))))] := hD
  refine W.widen (k := 1) (n := 2 * n) (by omega) (by omega) ?_
  refine lv_astore_n (lv' := [(1, .ref q_1), (0, .ref q)]) hx hb d_M_twice_6 rfl hl (by decide) rfl (fun ls hl => ?_)
  refine lv_aload_n hx hb d_M_twice_7 rfl (lv_at hl 1 rfl) ?_
  refine lv_iconst (v := nI 0) hx hb d_M_twice_8 (by decide) ?_
  refine lv_aload_n hx hb d_M_twice_9 rfl (lv_at hl 0 rfl) ?_
  refine lv_iconst (v := nI 0) hx hb d_M_twice_10 (by decide) ?_
  refine lv_aload_n hx hb d_M_twice_11 rfl (lv_at hl 1 rfl) ?_
  refine fz_alen hx hb hK hP 0 0 rfl rfl d_M_twice_12 ?_
  refine fz_cpyi hx hb (hml.trans hl.1.symm) hown (hw _ m_414) (hw _ m_124) (hw _ m_123) (hw _ m_7) hK hP hD hS 0 1 0 rfl rfl rfl (by omega) (by omega) (by omega) (Nat.le_of_ble_eq_true rfl) (Nat.le_of_ble_eq_true rfl) d_M_twice_13 (fun H locs hP hD hS => ?_)
  have hP : va_P (dC, dI) classes [(q, .inl (cI, n, .inl (nf fn))), (q_1, .inl (cI, 2 * n, .inl (nf (cpz fn (fun _ => 0) n))))] H := hP
  have hD : va_D A [(q, .inl (cI, n, .inl (nf fn))), (q_1, .inl (cI, 2 * n, .inl (nf (cpz fn (fun _ => 0) n))))] := hD
  refine lv_aload_n hx hb d_M_twice_16 rfl (lv_at hl 0 rfl) ?_
  exact hret q_1 () _ _ 17 ls trivial hP hD hS d_M_twice_17
set_option maxHeartbeats 4000000 in
set_option maxRecDepth 100000 in
/-- twiceLong -/
theorem c_twiceLong (l : Launch) (dC : Nat → ClassId) (dI : Nat → Nat → Nat) (cI cL cB : ClassId) (q : Nat) (n : Nat) (fn : Nat → Int64) (hn : n < 2 ^ 18) : StdR l y_M_twiceLong (wd y_M_twiceLong b_M_twiceLong 2 (some (.array .long))) 1 28 1 (2 * n) (dC, dI) classes (tyK cI cL cB) [.ref q] [(q, .inl (cL, n, .inr (.inl fn)))] (fun (r : Nat) (u : Unit) => True) (fun (u : Unit) (r : Nat) => [(q, .inl (cL, n, .inr (.inl fn))), (r, .inl (cL, 2 * n, .inr (.inl (cpz fn (fun _ => 0) n))))]) := by
  refine StdR.mk (cc := b_M_twiceLong) (maxL := 2) (Or.inr ⟨_, rfl⟩) (by decide) rfl (Nat.le_of_ble_eq_true rfl) ?_
  intro p e s m below meth c A Z ls hx hb hml hown hts hin hP hK hD hA hS hret hl
  have hown : s.vm.findClass R_M = some m.cls := hown
  have hw : ∀ x ∈ WALL, x.before _ s = true := fun x h => hts x (List.mem_cons_of_mem _ h)
  have hl : lv_has ls 2 [(0, .ref q)] := hl
  refine lv_iconst (v := nI 2) hx hb d_M_twiceLong_0 (by decide) ?_
  refine lv_aload_n hx hb d_M_twiceLong_1 rfl (lv_at hl 0 rfl) ?_
  refine fz_alen hx hb hK hP 0 1 rfl rfl d_M_twiceLong_2 ?_
  refine lv_imul hx hb d_M_twiceLong_3 ?_
  refine fz_eqi (y := nI (2 * n)) (pk_mul 2 n) ?_
  refine fz_newl hx hb (hw _ m_81) hK 1 rfl hP hD hS hA (by omega) (by (try dsimp only); omega) (by (try dsimp only); omega) d_M_twiceLong_4 (fun q_1 H hP hD hS => ?_)
  have hP : va_P (dC, dI) classes [(q, .inl (cL, n, .inr (.inl fn))), (q_1, .inl (cL, 2 * n, .inr (.inl (fun _ => 0))))] H := hP
  have hD : va_D A [(q, .inl (cL, n, .inr (.inl fn))), (q_1, .inl (cL, 2 * n, .inr (.inl (fun _ => 0))))] := hD
  refine W.widen (k := 1) (n := 2 * n) (by omega) (by omega) ?_
  refine lv_astore_n (lv' := [(1, .ref q_1), (0, .ref q)]) hx hb d_M_twiceLong_6 rfl hl (by decide) rfl (fun ls hl => ?_)
  refine lv_aload_n hx hb d_M_twiceLong_7 rfl (lv_at hl 1 rfl) ?_
  refine lv_iconst (v := nI 0) hx hb d_M_twiceLong_8 (by decide) ?_
  refine lv_aload_n hx hb d_M_twiceLong_9 rfl (lv_at hl 0 rfl) ?_
  refine lv_iconst (v := nI 0) hx hb d_M_twiceLong_10 (by decide) ?_
  refine lv_aload_n hx hb d_M_twiceLong_11 rfl (lv_at hl 1 rfl) ?_
  refine fz_alen hx hb hK hP 0 1 rfl rfl d_M_twiceLong_12 ?_
  refine fz_cpyl hx hb (hml.trans hl.1.symm) hown (hw _ m_414) (hw _ m_124) (hw _ m_123) (hw _ m_7) hK hP hD hS 0 1 1 rfl rfl rfl (by omega) (by omega) (by omega) (Nat.le_of_ble_eq_true rfl) (Nat.le_of_ble_eq_true rfl) d_M_twiceLong_13 (fun H locs hP hD hS => ?_)
  have hP : va_P (dC, dI) classes [(q, .inl (cL, n, .inr (.inl fn))), (q_1, .inl (cL, 2 * n, .inr (.inl (cpz fn (fun _ => 0) n))))] H := hP
  have hD : va_D A [(q, .inl (cL, n, .inr (.inl fn))), (q_1, .inl (cL, 2 * n, .inr (.inl (cpz fn (fun _ => 0) n))))] := hD
  refine lv_aload_n hx hb d_M_twiceLong_16 rfl (lv_at hl 0 rfl) ?_
  exact hret q_1 () _ _ 17 ls trivial hP hD hS d_M_twiceLong_17
set_option maxHeartbeats 4000000 in
set_option maxRecDepth 100000 in
/-- twiceByte -/
theorem c_twiceByte (l : Launch) (dC : Nat → ClassId) (dI : Nat → Nat → Nat) (cI cL cB : ClassId) (q : Nat) (n : Nat) (fn : Nat → Nat) (hn : n < 2 ^ 18) (hfit : ∀ i, fn i < 128) : StdR l y_M_twiceByte (wd y_M_twiceByte b_M_twiceByte 2 (some (.array .byte))) 1 28 1 (2 * n) (dC, dI) classes (tyK cI cL cB) [.ref q] [(q, .inl (cB, n, .inl (nf fn)))] (fun (r : Nat) (u : Unit) => True) (fun (u : Unit) (r : Nat) => [(q, .inl (cB, n, .inl (nf fn))), (r, .inl (cB, 2 * n, .inl (nf (cpz fn (fun _ => 0) n))))]) := by
  refine StdR.mk (cc := b_M_twiceByte) (maxL := 2) (Or.inr ⟨_, rfl⟩) (by decide) rfl (Nat.le_of_ble_eq_true rfl) ?_
  intro p e s m below meth c A Z ls hx hb hml hown hts hin hP hK hD hA hS hret hl
  have hown : s.vm.findClass R_M = some m.cls := hown
  have hw : ∀ x ∈ WALL, x.before _ s = true := fun x h => hts x (List.mem_cons_of_mem _ h)
  have hl : lv_has ls 2 [(0, .ref q)] := hl
  refine lv_iconst (v := nI 2) hx hb d_M_twiceByte_0 (by decide) ?_
  refine lv_aload_n hx hb d_M_twiceByte_1 rfl (lv_at hl 0 rfl) ?_
  refine fz_alen hx hb hK hP 0 2 rfl rfl d_M_twiceByte_2 ?_
  refine lv_imul hx hb d_M_twiceByte_3 ?_
  refine fz_eqi (y := nI (2 * n)) (pk_mul 2 n) ?_
  refine fz_newb hx hb (hw _ m_82) hK 2 rfl hP hD hS hA (by omega) (by (try dsimp only); omega) (by (try dsimp only); omega) d_M_twiceByte_4 (fun q_1 H hP hD hS => ?_)
  have hP : va_P (dC, dI) classes [(q, .inl (cB, n, .inl (nf fn))), (q_1, .inl (cB, 2 * n, .inl (nf (fun _ => 0))))] H := hP
  have hD : va_D A [(q, .inl (cB, n, .inl (nf fn))), (q_1, .inl (cB, 2 * n, .inl (nf (fun _ => 0))))] := hD
  refine W.widen (k := 1) (n := 2 * n) (by omega) (by omega) ?_
  refine lv_astore_n (lv' := [(1, .ref q_1), (0, .ref q)]) hx hb d_M_twiceByte_6 rfl hl (by decide) rfl (fun ls hl => ?_)
  refine lv_aload_n hx hb d_M_twiceByte_7 rfl (lv_at hl 1 rfl) ?_
  refine lv_iconst (v := nI 0) hx hb d_M_twiceByte_8 (by decide) ?_
  refine lv_aload_n hx hb d_M_twiceByte_9 rfl (lv_at hl 0 rfl) ?_
  refine lv_iconst (v := nI 0) hx hb d_M_twiceByte_10 (by decide) ?_
  refine lv_aload_n hx hb d_M_twiceByte_11 rfl (lv_at hl 1 rfl) ?_
  refine fz_alen hx hb hK hP 0 2 rfl rfl d_M_twiceByte_12 ?_
  refine fz_cpyb hx hb (hml.trans hl.1.symm) hown (hw _ m_414) (hw _ m_124) (hw _ m_123) (hw _ m_7) hK hP hD hS 0 1 2 rfl rfl rfl (fun i _ => fz_fitb (hfit i)) (by omega) (by omega) (by omega) (Nat.le_of_ble_eq_true rfl) (Nat.le_of_ble_eq_true rfl) d_M_twiceByte_13 (fun H locs hP hD hS => ?_)
  have hP : va_P (dC, dI) classes [(q, .inl (cB, n, .inl (nf fn))), (q_1, .inl (cB, 2 * n, .inl (nf (cpz fn (fun _ => 0) n))))] H := hP
  have hD : va_D A [(q, .inl (cB, n, .inl (nf fn))), (q_1, .inl (cB, 2 * n, .inl (nf (cpz fn (fun _ => 0) n))))] := hD
  refine lv_aload_n hx hb d_M_twiceByte_16 rfl (lv_at hl 0 rfl) ?_
  exact hret q_1 () _ _ 17 ls trivial hP hD hS d_M_twiceByte_17
set_option maxHeartbeats 4000000 in
set_option maxRecDepth 100000 in
/-- isTable -/
theorem m_isTable (l : Launch) (dC : Nat → ClassId) (dI : Nat → Nat → Nat) (cI cL cB : ClassId) (mo : Nat) (m1 : Nat) (m2 : Nat) (m3 : Nat) (m4 : Nat) (m5 : Nat) (m6 : Nat) (m7 : Nat) (m8 : Nat) (m9 : Nat) (m10 : Nat) (m11 : Nat) (ck : Nat) (nT : Nat) (cnt : Nat) (cn : Int64) (x : Int32) (hn : nT ≤ 30000) : QryI l y_M_isTable (wd y_M_isTable b_M_isTable 2 (some .boolean)) 0 0 (dC, dI) classes (tyK cI cL cB) [.ref mo, .int x] [(mo, .inr (3, [.ref m1, .ref m2, .ref m3, .ref m4, .ref m5, .ref m6, .ref m7, .int (nI cnt), .ref m8, .ref m9, .ref m10, .ref m11, .int (nI nT), .int (nI ck), .long cn]))] (fun r : Int32 => ∃ b, b ≤ 1 ∧ r = nI b ∧ (b = 1 ↔ okT nT x)) := by
  refine QryZ.mk (cc := b_M_isTable) (maxL := 2) (by decide) rfl (Nat.le_of_ble_eq_true rfl) ?_
  intro p e s m below meth c Z ls hx hb hml hown hts hP hK hret hl
  have hP : va_P (dC, dI) classes [(mo, .inr (3, [.ref m1, .ref m2, .ref m3, .ref m4, .ref m5, .ref m6, .ref m7, .int (nI cnt), .ref m8, .ref m9, .ref m10, .ref m11, .int (nI nT), .int (nI ck), .long cn]))] s.heap := hP
  have hown : s.vm.findClass R_M = some m.cls := hown
  have hw : ∀ x ∈ WALL, x.before _ s = true := fun x h => hts x (List.mem_cons_of_mem _ h)
  have hl : lv_has ls 2 [(0, .ref mo), (1, .int x)] := hl
  refine lv_iload_n hx hb d_M_isTable_0 rfl (lv_at hl 1 rfl) ?_
  refine lv_iconst (v := nI 1) hx hb d_M_isTable_1 (by decide) ?_
  refine lv_icmp_lt (tgt := 17) hx hb d_M_isTable_2 (by decide) (fun c2 => ?_) (fun c2 => ?_)
  · refine lv_iconst (v := nI 0) hx hb d_M_isTable_17 (by decide) ?_
    exact hret (nI 0) 18 ls (Or.inl rfl) ⟨0, by omega, rfl, fun h => absurd h (by omega), fun h => absurd h (okT_lt (by omega) c2)⟩ d_M_isTable_18
  · refine lv_iload_n hx hb d_M_isTable_5 rfl (lv_at hl 1 rfl) ?_
    refine lv_aload_n hx hb d_M_isTable_6 rfl (lv_at hl 0 rfl) ?_
    refine va_get (D := (dC, dI)) (ci := 3) (v := .int (nI nT)) (C := R_M) (T := T_M) (N := 15) hx hb hw in_M hown hK hP 0 rfl rfl 12 (by decide) (hw _ m_373) (fun _ h9 => h9) rfl d_M_isTable_7 ?_
    refine lv_icmp_gt (tgt := 17) hx hb d_M_isTable_10 (by decide) (fun c10 => ?_) (fun c10 => ?_)
    · refine lv_iconst (v := nI 0) hx hb d_M_isTable_17 (by decide) ?_
      exact hret (nI 0) 18 ls (Or.inl rfl) ⟨0, by omega, rfl, fun h => absurd h (by omega), fun h => absurd h (okT_gt (by omega) c10)⟩ d_M_isTable_18
    · refine lv_iconst (v := nI 1) hx hb d_M_isTable_13 (by decide) ?_
      refine lv_goto (tgt := 18) hx hb d_M_isTable_14 (by decide) ?_
      exact hret (nI 1) 18 ls (Or.inr rfl) ⟨1, by omega, rfl, fun _ => okT_of (by omega) c2 c10, fun _ => rfl⟩ d_M_isTable_18
set_option maxHeartbeats 4000000 in
set_option maxRecDepth 100000 in
/-- chainOf -/
theorem m_chainOf (l : Launch) (dC : Nat → ClassId) (dI : Nat → Nat → Nat) (cI cL cB : ClassId) (t : Nat) (k : Nat) (key : Int64) (ht : t < 2 ^ 20) (hk : k < 2 ^ 20) : QryI l y_M_chainOf (wd y_M_chainOf b_M_chainOf 6 (some .int)) 0 0 (dC, dI) classes (tyK cI cL cB) [.int (nI t), .int (nI k), .long key] [] (fun r : Int32 => r = nI (md_h t k key)) := by
  refine QryI.mk (cc := b_M_chainOf) (maxL := 6) (by decide) rfl (Nat.le_of_ble_eq_true rfl) ?_
  intro p e s m below meth c Z ls hx hb hml hown hts hP hK hret hl
  have hP : va_P (dC, dI) classes [] s.heap := hP
  have hown : s.vm.findClass R_M = some m.cls := hown
  have hw : ∀ x ∈ WALL, x.before _ s = true := fun x h => hts x (List.mem_cons_of_mem _ h)
  have hl : lv_has ls 6 [(0, .int (nI t)), (1, .int (nI k)), (2, .long key)] := hl
  refine lv_lload_n hx hb d_M_chainOf_0 rfl (lv_at hl 2 rfl) ?_
  refine lv_lload_n hx hb d_M_chainOf_1 rfl (lv_at hl 2 rfl) ?_
  refine lv_bipush (v := nI 17) hx hb d_M_chainOf_2 (by decide) ?_
  refine lv_lshr hx hb d_M_chainOf_4 rfl ?_
  refine lv_lxor hx hb d_M_chainOf_5 ?_
  refine lv_ldc2 (v := 8) hx hb hown (hw _ m_431) d_M_chainOf_6 ?_
  refine fz_eql (y := lN 8) (by decide) ?_
  refine lv_lmul hx hb d_M_chainOf_9 ?_
  refine lv_iload_n hx hb d_M_chainOf_10 rfl (lv_at hl 1 rfl) ?_
  refine lv_i2l (v := lN k) hx hb d_M_chainOf_11 (nI_l (by omega)) ?_
  refine lv_ladd hx hb d_M_chainOf_12 ?_
  refine lv_ldc2 (v := 97) hx hb hown (hw _ m_432) d_M_chainOf_13 ?_
  refine fz_eql (y := lN 97) (by decide) ?_
  refine lv_iload_n hx hb d_M_chainOf_16 rfl (lv_at hl 0 rfl) ?_
  refine lv_i2l (v := lN t) hx hb d_M_chainOf_17 (nI_l (by omega)) ?_
  refine lv_lmul hx hb d_M_chainOf_18 ?_
  refine fz_eql (y := lN (97 * t)) (lN_mul 97 t) ?_
  refine lv_ladd hx hb d_M_chainOf_19 ?_
  refine lv_topl (fun x1 ex1 => ?_)
  refine lv_lstore (lv' := [(4, .long x1), (0, .int (nI t)), (1, .int (nI k)), (2, .long key)]) hx hb d_M_chainOf_20 hl (by decide) rfl (fun ls hl => ?_)
  refine lv_lload hx hb d_M_chainOf_22 (lv_at hl 0 rfl) ?_
  refine lv_ldc2 (v := 9223372036854775807) hx hb hown (hw _ m_433) d_M_chainOf_24 ?_
  refine fz_eql (y := lN 9223372036854775807) (by decide) ?_
  refine lv_land hx hb d_M_chainOf_27 ?_
  refine fz_eql (y := lN (x1.toBitVec.toNat % 2 ^ 63)) (md_mask x1) ?_
  refine lv_ldc2 (v := 8191) hx hb hown (hw _ m_434) d_M_chainOf_28 ?_
  refine fz_eql (y := lN 8191) (by decide) ?_
  refine lv_lrem hx hb d_M_chainOf_31 (by decide) ?_
  refine fz_eql (y := lN (x1.toBitVec.toNat % 2 ^ 63 % 8191)) (pk_lRem (by omega) (by omega) (by omega)) ?_
  refine lv_l2i (v := nI (x1.toBitVec.toNat % 2 ^ 63 % 8191)) hx hb d_M_chainOf_32 (lN_i (x1.toBitVec.toNat % 2 ^ 63 % 8191)) ?_
  exact hret (nI (x1.toBitVec.toNat % 2 ^ 63 % 8191)) 33 ls (by rw [ex1]; rfl) d_M_chainOf_33
set_option maxHeartbeats 4000000 in
set_option maxRecDepth 100000 in
/-- find -/
theorem m_find (l : Launch) (dC : Nat → ClassId) (dI : Nat → Nat → Nat) (cI cL cB : ClassId) (mo : Nat) (m1 : Nat) (m2 : Nat) (m3 : Nat) (m4 : Nat) (m5 : Nat) (m6 : Nat) (m7 : Nat) (m8 : Nat) (m9 : Nat) (m10 : Nat) (m11 : Nat) (ck : Nat) (nT : Nat) (gm : Nat) (gt : Nat) (cn : Int64) (a : AS) (kk : Nat → Nat) (ky : Nat → Int64) (kd : Nat → Nat) (nu : Nat → Int64) (tb : Nat → Nat) (nx : Nat → Nat) (ot : Nat → Nat) (ch : Nat → Nat) (fi : Nat → Nat) (la : Nat → Nat) (sz : Nat → Nat) (t : Nat) (k : Nat) (key : Int64) (hMI : MI nT a gm gt kk ky kd nu tb nx ot ch fi la sz) (ht2 : t ≤ nT) (hk : k < 8) : QryI l y_M_find (wd y_M_find b_M_find 6 (some .int)) 1 25 (dC, dI) classes (tyK cI cL cB) [.ref mo, .int (nI t), .int (nI k), .long key] [(mo, .inr (3, [.ref m1, .ref m2, .ref m3, .ref m4, .ref m5, .ref m6, .ref m7, .int (nI (aN a)), .ref m8, .ref m9, .ref m10, .ref m11, .int (nI nT), .int (nI ck), .long cn])), (m1, .inl (cB, md_L gm, .inl (nf kk))), (m2, .inl (cL, md_L gm, .inr (.inl ky))), (m3, .inl (cB, md_L gm, .inl (nf kd))), (m4, .inl (cL, md_L gm, .inr (.inl nu))), (m5, .inl (cI, md_L gm, .inl (nf tb))), (m6, .inl (cI, md_L gm, .inl (nf nx))), (m7, .inl (cI, md_L gm, .inl (nf ot))), (m8, .inl (cI, 8191, .inl (nf ch))), (m9, .inl (cI, md_R gt, .inl (nf fi))), (m10, .inl (cI, md_R gt, .inl (nf la))), (m11, .inl (cI, md_R gt, .inl (nf sz)))] (fun r : Int32 => r = nI (aF a (t * 8 + k) key)) := by
  obtain ⟨hMS, hMT, hgt, hRT⟩ := id hMI
  have hAI := hMS.1
  have hnT := hMS.2.1
  have hgm := hMS.2.2.1
  have hnL := hMS.2.2.2.1
  have hAg := hMS.2.2.2.2.1
  have hk8 := hMS.2.2.2.2.2.1
  have hd7 := hMS.2.2.2.2.2.2.1
  have hdz := hMS.2.2.2.2.2.2.2.1
  have hch := hMS.2.2.2.2.2.2.2.2.1
  have hot := hMS.2.2.2.2.2.2.2.2.2
  have hg1 := md_gen gm hgm
  have hg2 := md_gen gt hgt
  have hn4 := hAI.1
  refine QryI.mk (cc := b_M_find) (maxL := 6) (by decide) rfl (Nat.le_of_ble_eq_true rfl) ?_
  intro p e s m below meth c Z ls hx hb hml hown hts hP hK hret hl
  have hP : va_P (dC, dI) classes [(mo, .inr (3, [.ref m1, .ref m2, .ref m3, .ref m4, .ref m5, .ref m6, .ref m7, .int (nI (aN a)), .ref m8, .ref m9, .ref m10, .ref m11, .int (nI nT), .int (nI ck), .long cn])), (m1, .inl (cB, md_L gm, .inl (nf kk))), (m2, .inl (cL, md_L gm, .inr (.inl ky))), (m3, .inl (cB, md_L gm, .inl (nf kd))), (m4, .inl (cL, md_L gm, .inr (.inl nu))), (m5, .inl (cI, md_L gm, .inl (nf tb))), (m6, .inl (cI, md_L gm, .inl (nf nx))), (m7, .inl (cI, md_L gm, .inl (nf ot))), (m8, .inl (cI, 8191, .inl (nf ch))), (m9, .inl (cI, md_R gt, .inl (nf fi))), (m10, .inl (cI, md_R gt, .inl (nf la))), (m11, .inl (cI, md_R gt, .inl (nf sz)))] s.heap := hP
  have hown : s.vm.findClass R_M = some m.cls := hown
  have hw : ∀ x ∈ WALL, x.before _ s = true := fun x h => hts x (List.mem_cons_of_mem _ h)
  have hl : lv_has ls 6 [(0, .ref mo), (1, .int (nI t)), (2, .int (nI k)), (3, .long key)] := hl
  refine lv_aload_n hx hb d_M_find_0 rfl (lv_at hl 0 rfl) ?_
  refine va_get (D := (dC, dI)) (ci := 3) (v := .ref m8) (C := R_M) (T := T_M) (N := 15) hx hb hw in_M hown hK hP 0 rfl rfl 8 (by decide) (hw _ m_369) (fun _ h9 => h9) rfl d_M_find_1 ?_
  refine lv_iload_n hx hb d_M_find_4 rfl (lv_at hl 1 rfl) ?_
  refine lv_iload_n hx hb d_M_find_5 rfl (lv_at hl 2 rfl) ?_
  refine lv_lload_n hx hb d_M_find_6 rfl (lv_at hl 3 rfl) ?_
  refine QryI.callS (m_chainOf l dC dI cI cL cB t k key (by omega) (by omega)) ⟨hx, hb, hml, hown, hw⟩ (fz_cwS 3 hw m_430 m_428 m_429 m_4 rfl rfl (by decide +kernel) ⟨Nat.le_of_ble_eq_true rfl, Nat.le_of_ble_eq_true rfl⟩) hK hP [] rfl rfl hl.1 rfl (Nat.le_of_ble_eq_true rfl) d_M_find_7 ⟨(Nat.le_of_ble_eq_true rfl), (Nat.le_of_ble_eq_true rfl)⟩ (fun r7 h7 => ?_)
  subst h7
  refine fz_iald hx hb hK hP 8 0 rfl rfl (j := md_h t k key) (md_h_lt _ _ _) (by omega) d_M_find_10 ?_
  refine lv_istore (lv' := [(5, .int (nI (ch (md_h t k key)))), (0, .ref mo), (1, .int (nI t)), (2, .int (nI k)), (3, .long key)]) hx hb d_M_find_11 hl (by decide) rfl (fun ls hl => ?_)
  have loop_13 : ∀ (fuel : Nat) (fl : Nat) (b : Nat), isP (aH a) (md_h t k key) b fl → b ≤ aN a → noM a t k key b → fl < fuel → ∀ (ls : Array Slot), lv_has ls 6 [(0, .ref mo), (1, .int (nI t)), (2, .int (nI k)), (3, .long key), (5, .int (nI fl))] → W p l e { frames := 1, cells := 0, slots := 0, locals := 25 } s m [.ref mo, .int (nI t), .int (nI k), .long key].toArray below meth c s.heap [] 0 0 Z (F0 m 13 ls []) := by
    intro fuel
    induction fuel with
    | zero => intro fl b hp hbn hno hfuel; exact absurd hfuel (Nat.not_lt_zero _)
    | succ fuel ih =>
      intro fl b hp hbn hno hfuel ls hl
      have hfb := hp.le
      refine lv_iload hx hb d_M_find_13 (lv_at hl 4 rfl) ?_
      refine lv_if_le (tgt := 64) hx hb d_M_find_15 (by decide) (fun c15 => ?_) (fun c15 => ?_)
      · have c15 : fl ≤ 0 := by rw [← nI_0] at c15; exact (nI_leI (by omega) (by omega)).mp c15
        refine lv_iload hx hb d_M_find_64 (lv_at hl 4 rfl) ?_
        exact hret (nI fl) 66 ls (by have z := hno.down hk hp; rw [show fl = 0 by omega] at z ⊢; rw [z.zero]) d_M_find_66
      · have c15 : ¬ fl ≤ 0 := fun h => c15 (by rw [← nI_0]; exact (nI_leI (by omega) (by omega)).mpr h)
        have hff := hp.facts (by omega)
        have hAf := hAg fl (by omega) (by omega)
        have hti := hAI.2.1 fl (by omega) (by omega)
        have hkf := hk8 fl
        have htf : tb fl ≤ 30000 := by rw [hAf.2.1]; omega
        refine lv_aload_n hx hb d_M_find_18 rfl (lv_at hl 0 rfl) ?_
        refine va_get (D := (dC, dI)) (ci := 3) (v := .ref m5) (C := R_M) (T := T_M) (N := 15) hx hb hw in_M hown hK hP 0 rfl rfl 4 (by decide) (hw _ m_365) (fun _ h9 => h9) rfl d_M_find_19 ?_
        refine lv_iload hx hb d_M_find_22 (lv_at hl 4 rfl) ?_
        refine fz_iald hx hb hK hP 5 0 rfl rfl (j := fl) (by omega) (by omega) d_M_find_24 ?_
        refine lv_iload_n hx hb d_M_find_25 rfl (lv_at hl 1 rfl) ?_
        refine lv_icmp_ne (tgt := 52) hx hb d_M_find_26 (by decide) (fun c26 => ?_) (fun c26 => ?_)
        · have c26 : ¬ tb fl = t := fun h => c26 (by exact (nI_eq (by omega) (by omega)).mpr h)
          refine lv_aload_n hx hb d_M_find_52 rfl (lv_at hl 0 rfl) ?_
          refine va_get (D := (dC, dI)) (ci := 3) (v := .ref m7) (C := R_M) (T := T_M) (N := 15) hx hb hw in_M hown hK hP 0 rfl rfl 6 (by decide) (hw _ m_367) (fun _ h9 => h9) rfl d_M_find_53 ?_
          refine lv_iload hx hb d_M_find_56 (lv_at hl 4 rfl) ?_
          refine fz_iald hx hb hK hP 7 0 rfl rfl (j := fl) (by omega) (by omega) d_M_find_58 ?_
          refine lv_istore (lv' := [(5, .int (nI (ot fl))), (0, .ref mo), (1, .int (nI t)), (2, .int (nI k)), (3, .long key)]) hx hb d_M_find_59 hl (by decide) rfl (fun ls hl => ?_)
          refine lv_goto (tgt := 13) hx hb d_M_find_61 (by decide) ?_
          have hnm : ¬ (aO a fl = t * 8 + k ∧ aK a fl = key) := fun h => c26 (by rw [hAf.2.1, h.1]; omega)
          exact ih (ot fl) (fl - 1) (by have := hot fl (by omega) (by omega); rw [hff.2.2] at this; exact this) (by omega) ((hno.down hk hp).step hnm) (by have := (hot fl (by omega) (by omega)).le; omega) ls (lv_sub hl [1, 2, 3, 4, 0] rfl)
        · have c26 : tb fl = t := by exact (nI_eq (by omega) (by omega)).mp c26
          refine lv_aload_n hx hb d_M_find_29 rfl (lv_at hl 0 rfl) ?_
          refine va_get (D := (dC, dI)) (ci := 3) (v := .ref m1) (C := R_M) (T := T_M) (N := 15) hx hb hw in_M hown hK hP 0 rfl rfl 0 (by decide) (hw _ m_361) (fun _ h9 => h9) rfl d_M_find_30 ?_
          refine lv_iload hx hb d_M_find_33 (lv_at hl 4 rfl) ?_
          refine fz_bald hx hb hK hP 1 2 rfl rfl (j := fl) (by omega) (by omega) d_M_find_35 ?_
          refine lv_iload_n hx hb d_M_find_36 rfl (lv_at hl 2 rfl) ?_
          refine lv_icmp_ne (tgt := 52) hx hb d_M_find_37 (by decide) (fun c37 => ?_) (fun c37 => ?_)
          · have c37 : ¬ kk fl = k := fun h => c37 (by exact (nI_eq (by omega) (by omega)).mpr h)
            refine lv_aload_n hx hb d_M_find_52 rfl (lv_at hl 0 rfl) ?_
            refine va_get (D := (dC, dI)) (ci := 3) (v := .ref m7) (C := R_M) (T := T_M) (N := 15) hx hb hw in_M hown hK hP 0 rfl rfl 6 (by decide) (hw _ m_367) (fun _ h9 => h9) rfl d_M_find_53 ?_
            refine lv_iload hx hb d_M_find_56 (lv_at hl 4 rfl) ?_
            refine fz_iald hx hb hK hP 7 0 rfl rfl (j := fl) (by omega) (by omega) d_M_find_58 ?_
            refine lv_istore (lv' := [(5, .int (nI (ot fl))), (0, .ref mo), (1, .int (nI t)), (2, .int (nI k)), (3, .long key)]) hx hb d_M_find_59 hl (by decide) rfl (fun ls hl => ?_)
            refine lv_goto (tgt := 13) hx hb d_M_find_61 (by decide) ?_
            have hnm : ¬ (aO a fl = t * 8 + k ∧ aK a fl = key) := fun h => c37 (by rw [hAf.1, h.1]; omega)
            exact ih (ot fl) (fl - 1) (by have := hot fl (by omega) (by omega); rw [hff.2.2] at this; exact this) (by omega) ((hno.down hk hp).step hnm) (by have := (hot fl (by omega) (by omega)).le; omega) ls (lv_sub hl [1, 2, 3, 4, 0] rfl)
          · have c37 : kk fl = k := by exact (nI_eq (by omega) (by omega)).mp c37
            refine lv_aload_n hx hb d_M_find_40 rfl (lv_at hl 0 rfl) ?_
            refine va_get (D := (dC, dI)) (ci := 3) (v := .ref m2) (C := R_M) (T := T_M) (N := 15) hx hb hw in_M hown hK hP 0 rfl rfl 1 (by decide) (hw _ m_362) (fun _ h9 => h9) rfl d_M_find_41 ?_
            refine lv_iload hx hb d_M_find_44 (lv_at hl 4 rfl) ?_
            refine fz_lald hx hb hK hP 2 1 rfl rfl (j := fl) (by omega) (by omega) d_M_find_46 ?_
            refine lv_lload_n hx hb d_M_find_47 rfl (lv_at hl 3 rfl) ?_
            refine W.lcmp hx hb d_M_find_48 ?_
            refine lv_if_eq (tgt := 64) hx hb d_M_find_49 (by decide) (fun c49 => ?_) (fun c49 => ?_)
            · have c49 : ky fl = key := (lg_cmp_eq _ _).mp c49
              refine lv_iload hx hb d_M_find_64 (lv_at hl 4 rfl) ?_
              exact hret (nI fl) 66 ls (by rw [show aF a (t * 8 + k) key = fl from fnd_uniq hAI.2.2.2.2.2.2.1 (by omega) (by omega) (by have z1 := hAf.1; have z2 := hAf.2.1; omega) (by rw [← hAf.2.2.1]; exact c49)]) d_M_find_66
            · have c49 : ¬ ky fl = key := fun h => c49 ((lg_cmp_eq _ _).mpr h)
              refine lv_aload_n hx hb d_M_find_52 rfl (lv_at hl 0 rfl) ?_
              refine va_get (D := (dC, dI)) (ci := 3) (v := .ref m7) (C := R_M) (T := T_M) (N := 15) hx hb hw in_M hown hK hP 0 rfl rfl 6 (by decide) (hw _ m_367) (fun _ h9 => h9) rfl d_M_find_53 ?_
              refine lv_iload hx hb d_M_find_56 (lv_at hl 4 rfl) ?_
              refine fz_iald hx hb hK hP 7 0 rfl rfl (j := fl) (by omega) (by omega) d_M_find_58 ?_
              refine lv_istore (lv' := [(5, .int (nI (ot fl))), (0, .ref mo), (1, .int (nI t)), (2, .int (nI k)), (3, .long key)]) hx hb d_M_find_59 hl (by decide) rfl (fun ls hl => ?_)
              refine lv_goto (tgt := 13) hx hb d_M_find_61 (by decide) ?_
              have hnm : ¬ (aO a fl = t * 8 + k ∧ aK a fl = key) := fun h => c49 (by rw [hAf.2.2.1]; exact h.2)
              exact ih (ot fl) (fl - 1) (by have := hot fl (by omega) (by omega); rw [hff.2.2] at this; exact this) (by omega) ((hno.down hk hp).step hnm) (by have := (hot fl (by omega) (by omega)).le; omega) ls (lv_sub hl [1, 2, 3, 4, 0] rfl)
  exact loop_13 ((ch (md_h t k key)) + 1) (ch (md_h t k key)) (aN a) (hch _ (md_h_lt _ _ _)) (Nat.le_refl _) (fun m m1 m2 => by omega) (Nat.lt_succ_self _) ls (lv_sub hl [1, 2, 3, 4, 0] rfl)
set_option maxHeartbeats 4000000 in
set_option maxRecDepth 100000 in
/-- findWhole -/
theorem m_findWhole (l : Launch) (dC : Nat → ClassId) (dI : Nat → Nat → Nat) (cI cL cB : ClassId) (mo : Nat) (m1 : Nat) (m2 : Nat) (m3 : Nat) (m4 : Nat) (m5 : Nat) (m6 : Nat) (m7 : Nat) (m8 : Nat) (m9 : Nat) (m10 : Nat) (m11 : Nat) (ck : Nat) (nT : Nat) (gm : Nat) (gt : Nat) (cn : Int64) (a : AS) (kk : Nat → Nat) (ky : Nat → Int64) (kd : Nat → Nat) (nu : Nat → Int64) (tb : Nat → Nat) (nx : Nat → Nat) (ot : Nat → Nat) (ch : Nat → Nat) (fi : Nat → Nat) (la : Nat → Nat) (sz : Nat → Nat) (t : Nat) (key : Int64) (hMI : MI nT a gm gt kk ky kd nu tb nx ot ch fi la sz) (ht2 : t ≤ nT) : QryI l y_M_findWhole (wd y_M_findWhole b_M_findWhole 4 (some .int)) 2 50 (dC, dI) classes (tyK cI cL cB) [.ref mo, .int (nI t), .long key] [(mo, .inr (3, [.ref m1, .ref m2, .ref m3, .ref m4, .ref m5, .ref m6, .ref m7, .int (nI (aN a)), .ref m8, .ref m9, .ref m10, .ref m11, .int (nI nT), .int (nI ck), .long cn])), (m1, .inl (cB, md_L gm, .inl (nf kk))), (m2, .inl (cL, md_L gm, .inr (.inl ky))), (m3, .inl (cB, md_L gm, .inl (nf kd))), (m4, .inl (cL, md_L gm, .inr (.inl nu))), (m5, .inl (cI, md_L gm, .inl (nf tb))), (m6, .inl (cI, md_L gm, .inl (nf nx))), (m7, .inl (cI, md_L gm, .inl (nf ot))), (m8, .inl (cI, 8191, .inl (nf ch))), (m9, .inl (cI, md_R gt, .inl (nf fi))), (m10, .inl (cI, md_R gt, .inl (nf la))), (m11, .inl (cI, md_R gt, .inl (nf sz)))] (fun r : Int32 => r = nI (aF a (t * 8 + 3) key)) := by
  obtain ⟨hMS, hMT, hgt, hRT⟩ := id hMI
  have hAI := hMS.1
  have hnT := hMS.2.1
  have hgm := hMS.2.2.1
  have hnL := hMS.2.2.2.1
  have hAg := hMS.2.2.2.2.1
  have hk8 := hMS.2.2.2.2.2.1
  have hd7 := hMS.2.2.2.2.2.2.1
  have hdz := hMS.2.2.2.2.2.2.2.1
  have hch := hMS.2.2.2.2.2.2.2.2.1
  have hot := hMS.2.2.2.2.2.2.2.2.2
  have hg1 := md_gen gm hgm
  have hg2 := md_gen gt hgt
  have hn4 := hAI.1
  refine QryI.mk (cc := b_M_findWhole) (maxL := 4) (by decide) rfl (Nat.le_of_ble_eq_true rfl) ?_
  intro p e s m below meth c Z ls hx hb hml hown hts hP hK hret hl
  have hP : va_P (dC, dI) classes [(mo, .inr (3, [.ref m1, .ref m2, .ref m3, .ref m4, .ref m5, .ref m6, .ref m7, .int (nI (aN a)), .ref m8, .ref m9, .ref m10, .ref m11, .int (nI nT), .int (nI ck), .long cn])), (m1, .inl (cB, md_L gm, .inl (nf kk))), (m2, .inl (cL, md_L gm, .inr (.inl ky))), (m3, .inl (cB, md_L gm, .inl (nf kd))), (m4, .inl (cL, md_L gm, .inr (.inl nu))), (m5, .inl (cI, md_L gm, .inl (nf tb))), (m6, .inl (cI, md_L gm, .inl (nf nx))), (m7, .inl (cI, md_L gm, .inl (nf ot))), (m8, .inl (cI, 8191, .inl (nf ch))), (m9, .inl (cI, md_R gt, .inl (nf fi))), (m10, .inl (cI, md_R gt, .inl (nf la))), (m11, .inl (cI, md_R gt, .inl (nf sz)))] s.heap := hP
  have hown : s.vm.findClass R_M = some m.cls := hown
  have hw : ∀ x ∈ WALL, x.before _ s = true := fun x h => hts x (List.mem_cons_of_mem _ h)
  have hl : lv_has ls 4 [(0, .ref mo), (1, .int (nI t)), (2, .long key)] := hl
  refine lv_aload_n hx hb d_M_findWhole_0 rfl (lv_at hl 0 rfl) ?_
  refine lv_iload_n hx hb d_M_findWhole_1 rfl (lv_at hl 1 rfl) ?_
  refine lv_iconst (v := nI 3) hx hb d_M_findWhole_2 (by decide) ?_
  refine lv_lload_n hx hb d_M_findWhole_3 rfl (lv_at hl 2 rfl) ?_
  refine QryI.callV (ci := 3) (q0 := 0) (m_find l dC dI cI cL cB mo m1 m2 m3 m4 m5 m6 m7 m8 m9 m10 m11 ck nT gm gt cn a kk ky kd nu tb nx ot ch fi la sz t 3 key hMI (by omega) (by omega)) ⟨hx, hb, hml, hown, hw⟩ (fz_cwV 3 hw m_427 m_424 m_426 ms_20 m_4 rfl rfl (by decide +kernel) ⟨Nat.le_of_ble_eq_true rfl, Nat.le_of_ble_eq_true rfl⟩) hK hP [0, 1, 2, 3, 4, 5, 6, 7, 8, 9, 10, 11] rfl rfl rfl rfl rfl hl.1 rfl (Nat.le_of_ble_eq_true rfl) d_M_findWhole_4 ⟨(Nat.le_of_ble_eq_true rfl), (Nat.le_of_ble_eq_true rfl)⟩ (fun r4 h4 => ?_)
  subst h4
  exact hret (nI (aF a (t * 8 + 3) key)) 7 ls rfl d_M_findWhole_7
set_option maxHeartbeats 4000000 in
set_option maxRecDepth 100000 in
/-- set -/
theorem m_set (l : Launch) (dC : Nat → ClassId) (dI : Nat → Nat → Nat) (cI cL cB : ClassId) (mo : Nat) (m1 : Nat) (m2 : Nat) (m3 : Nat) (m4 : Nat) (m5 : Nat) (m6 : Nat) (m7 : Nat) (m8 : Nat) (m9 : Nat) (m10 : Nat) (m11 : Nat) (ck : Nat) (nT : Nat) (cnt : Nat) (cn : Int64) (L : Nat) (i : Nat) (kind : Nat) (num : Int64) (kd : Nat → Nat) (nu : Nat → Int64) (hi : i < L) (hL : L < 2 ^ 20) (hk : kind < 128) : StdV l y_M_set (wd y_M_set b_M_set 5 none) 0 0 0 0 (dC, dI) classes (tyK cI cL cB) [.ref mo, .int (nI i), .int (nI kind), .long num] [(mo, .inr (3, [.ref m1, .ref m2, .ref m3, .ref m4, .ref m5, .ref m6, .ref m7, .int (nI cnt), .ref m8, .ref m9, .ref m10, .ref m11, .int (nI nT), .int (nI ck), .long cn])), (m3, .inl (cB, L, .inl (nf kd))), (m4, .inl (cL, L, .inr (.inl nu)))] (fun (u : Unit) => True) (fun (u : Unit) => [(mo, .inr (3, [.ref m1, .ref m2, .ref m3, .ref m4, .ref m5, .ref m6, .ref m7, .int (nI cnt), .ref m8, .ref m9, .ref m10, .ref m11, .int (nI nT), .int (nI ck), .long cn])), (m3, .inl (cB, L, .inl (nf (va_up kd i kind)))), (m4, .inl (cL, L, .inr (.inl (vp_updL nu i (if kind = 0 then 0 else num)))))]) := by
  refine StdV.mk (cc := b_M_set) (maxL := 5) (by decide) rfl (Nat.le_of_ble_eq_true rfl) ?_
  intro p e s m below meth c A Z ls hx hb hml hown hts hin hP hK hD hA hS hret hl
  have hown : s.vm.findClass R_M = some m.cls := hown
  have hw : ∀ x ∈ WALL, x.before _ s = true := fun x h => hts x (List.mem_cons_of_mem _ h)
  have hl : lv_has ls 5 [(0, .ref mo), (1, .int (nI i)), (2, .int (nI kind)), (3, .long num)] := hl
  refine lv_aload_n hx hb d_M_set_0 rfl (lv_at hl 0 rfl) ?_
  refine va_get (D := (dC, dI)) (ci := 3) (v := .ref m3) (C := R_M) (T := T_M) (N := 15) hx hb hw in_M hown hK hP 0 rfl rfl 2 (by decide) (hw _ m_363) (fun _ h9 => h9) rfl d_M_set_1 ?_
  refine lv_iload_n hx hb d_M_set_4 rfl (lv_at hl 1 rfl) ?_
  refine lv_iload_n hx hb d_M_set_5 rfl (lv_at hl 2 rfl) ?_
  refine lv_i2b (v := nI kind) hx hb d_M_set_6 (fz_i2b (by omega)) ?_
  refine fz_bast hx hb hK hP hD hS 1 2 rfl rfl (j := i) (fz_nb (by omega)) (by omega) (by omega) d_M_set_7 (fun H locs hP hD hS => ?_)
  have hP : va_P (dC, dI) classes [(mo, .inr (3, [.ref m1, .ref m2, .ref m3, .ref m4, .ref m5, .ref m6, .ref m7, .int (nI cnt), .ref m8, .ref m9, .ref m10, .ref m11, .int (nI nT), .int (nI ck), .long cn])), (m3, .inl (cB, L, .inl (nf (va_up kd i kind)))), (m4, .inl (cL, L, .inr (.inl nu)))] H := hP
  have hD : va_D A [(mo, .inr (3, [.ref m1, .ref m2, .ref m3, .ref m4, .ref m5, .ref m6, .ref m7, .int (nI cnt), .ref m8, .ref m9, .ref m10, .ref m11, .int (nI nT), .int (nI ck), .long cn])), (m3, .inl (cB, L, .inl (nf (va_up kd i kind)))), (m4, .inl (cL, L, .inr (.inl nu)))] := hD
  refine lv_aload_n hx hb d_M_set_8 rfl (lv_at hl 0 rfl) ?_
  refine va_get (D := (dC, dI)) (ci := 3) (v := .ref m4) (C := R_M) (T := T_M) (N := 15) hx hb hw in_M hown hK hP 0 rfl rfl 3 (by decide) (hw _ m_364) (fun _ h9 => h9) rfl d_M_set_9 ?_
  refine lv_iload_n hx hb d_M_set_12 rfl (lv_at hl 1 rfl) ?_
  refine lv_iload_n hx hb d_M_set_13 rfl (lv_at hl 2 rfl) ?_
  refine lv_if_ne (tgt := 21) hx hb d_M_set_14 (by decide) (fun c14 => ?_) (fun c14 => ?_)
  · have c14 : ¬ kind = 0 := fun h => c14 (((nI_eq (by omega) (by omega)).mpr h).trans nI_0)
    refine lv_lload_n hx hb d_M_set_21 rfl (lv_at hl 3 rfl) ?_
    refine fz_eql (y := if kind = 0 then 0 else num) (if_neg c14).symm ?_
    refine fz_last hx hb hK hP hD hS 2 1 rfl rfl (j := i) (by omega) (by omega) d_M_set_22 (fun H locs hP hD hS => ?_)
    have hP : va_P (dC, dI) classes [(mo, .inr (3, [.ref m1, .ref m2, .ref m3, .ref m4, .ref m5, .ref m6, .ref m7, .int (nI cnt), .ref m8, .ref m9, .ref m10, .ref m11, .int (nI nT), .int (nI ck), .long cn])), (m3, .inl (cB, L, .inl (nf (va_up kd i kind)))), (m4, .inl (cL, L, .inr (.inl (vp_updL nu i (if kind = 0 then 0 else num)))))] H := hP
    have hD : va_D A [(mo, .inr (3, [.ref m1, .ref m2, .ref m3, .ref m4, .ref m5, .ref m6, .ref m7, .int (nI cnt), .ref m8, .ref m9, .ref m10, .ref m11, .int (nI nT), .int (nI ck), .long cn])), (m3, .inl (cB, L, .inl (nf (va_up kd i kind)))), (m4, .inl (cL, L, .inr (.inl (vp_updL nu i (if kind = 0 then 0 else num)))))] := hD
    exact hret () _ _ 23 ls trivial hP hD hS d_M_set_23
  · have c14 : kind = 0 := (nI_eq (by omega) (by omega)).mp (c14.trans nI_0.symm)
    refine lv_lconst (v := lN 0) hx hb d_M_set_17 rfl ?_
    refine lv_goto (tgt := 22) hx hb d_M_set_18 (by decide) ?_
    refine fz_eql (y := if kind = 0 then 0 else num) (by rw [if_pos c14]; rfl) ?_
    refine fz_last hx hb hK hP hD hS 2 1 rfl rfl (j := i) (by omega) (by omega) d_M_set_22 (fun H locs hP hD hS => ?_)
    have hP : va_P (dC, dI) classes [(mo, .inr (3, [.ref m1, .ref m2, .ref m3, .ref m4, .ref m5, .ref m6, .ref m7, .int (nI cnt), .ref m8, .ref m9, .ref m10, .ref m11, .int (nI nT), .int (nI ck), .long cn])), (m3, .inl (cB, L, .inl (nf (va_up kd i kind)))), (m4, .inl (cL, L, .inr (.inl (vp_updL nu i (if kind = 0 then 0 else num)))))] H := hP
    have hD : va_D A [(mo, .inr (3, [.ref m1, .ref m2, .ref m3, .ref m4, .ref m5, .ref m6, .ref m7, .int (nI cnt), .ref m8, .ref m9, .ref m10, .ref m11, .int (nI nT), .int (nI ck), .long cn])), (m3, .inl (cB, L, .inl (nf (va_up kd i kind)))), (m4, .inl (cL, L, .inr (.inl (vp_updL nu i (if kind = 0 then 0 else num)))))] := hD
    exact hret () _ _ 23 ls trivial hP hD hS d_M_set_23
