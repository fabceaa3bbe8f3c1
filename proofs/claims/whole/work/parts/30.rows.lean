set_option maxHeartbeats 4000000 in
set_option maxRecDepth 100000 in
/-- TableRows.has -/
theorem c_has (l : Launch) (dC : Nat → ClassId) (dI : Nat → Nat → Nat) (cI cL cB : ClassId) (tr : Nat) (y1 : Nat) (y2 : Nat) (y3 : Nat) (y4 : Nat) (y5 : Nat) (nT : Nat) (x : Int32) (hn : nT ≤ 30000) : QryI l y_T_has (wd y_T_has b_T_has 2 (some .boolean)) 0 0 (dC, dI) classes (tyK cI cL cB) [.ref tr, .int x] [(tr, .inr (1, [.int (nI nT), .ref y1, .ref y2, .ref y3, .ref y4, .ref y5]))] (fun r : Int32 => ∃ b, b ≤ 1 ∧ r = nI b ∧ (b = 1 ↔ okT nT x)) := by
  refine QryZ.mk (cc := b_T_has) (maxL := 2) (by decide) rfl (Nat.le_of_ble_eq_true rfl) ?_
  intro p e s m below meth c Z ls hx hb hml hown hts hP hK hret hl
  have hP : va_P (dC, dI) classes [(tr, .inr (1, [.int (nI nT), .ref y1, .ref y2, .ref y3, .ref y4, .ref y5]))] s.heap := hP
  have hown : s.vm.findClass R_T = some m.cls := hown
  have hw : ∀ x ∈ WALL, x.before _ s = true := fun x h => hts x (List.mem_cons_of_mem _ h)
  have hl : lv_has ls 2 [(0, .ref tr), (1, .int x)] := hl
  refine lv_iload_n hx hb d_T_has_0 rfl (lv_at hl 1 rfl) ?_
  refine lv_iconst (v := nI 1) hx hb d_T_has_1 (by decide) ?_
  refine lv_icmp_lt (tgt := 17) hx hb d_T_has_2 (by decide) (fun c2 => ?_) (fun c2 => ?_)
  · refine lv_iconst (v := nI 0) hx hb d_T_has_17 (by decide) ?_
    exact hret (nI 0) 18 ls (Or.inl rfl) ⟨0, by omega, rfl, fun h => absurd h (by omega), fun h => absurd h (okT_lt (by omega) c2)⟩ d_T_has_18
  · refine lv_iload_n hx hb d_T_has_5 rfl (lv_at hl 1 rfl) ?_
    refine lv_aload_n hx hb d_T_has_6 rfl (lv_at hl 0 rfl) ?_
    refine va_get (D := (dC, dI)) (ci := 1) (v := .int (nI nT)) (C := R_T) (T := T_T) (N := 6) hx hb hw in_T hown hK hP 0 rfl rfl 0 (by decide) (hw _ m_22) (fun _ h9 => h9) rfl d_T_has_7 ?_
    refine lv_icmp_gt (tgt := 17) hx hb d_T_has_10 (by decide) (fun c10 => ?_) (fun c10 => ?_)
    · refine lv_iconst (v := nI 0) hx hb d_T_has_17 (by decide) ?_
      exact hret (nI 0) 18 ls (Or.inl rfl) ⟨0, by omega, rfl, fun h => absurd h (by omega), fun h => absurd h (okT_gt (by omega) c10)⟩ d_T_has_18
    · refine lv_iconst (v := nI 1) hx hb d_T_has_13 (by decide) ?_
      refine lv_goto (tgt := 18) hx hb d_T_has_14 (by decide) ?_
      exact hret (nI 1) 18 ls (Or.inr rfl) ⟨1, by omega, rfl, fun _ => okT_of (by omega) c2 c10, fun _ => rfl⟩ d_T_has_18
set_option maxHeartbeats 4000000 in
set_option maxRecDepth 100000 in
/-- TableRows.forget -/
theorem c_Tforget (l : Launch) (dC : Nat → ClassId) (dI : Nat → Nat → Nat) (cI cL cB : ClassId) (tr : Nat) (y1 : Nat) (y2 : Nat) (y3 : Nat) (y4 : Nat) (y5 : Nat) (nT : Nat)  : StdV l y_T_forget (wd y_T_forget b_T_forget 1 none) 0 0 0 0 (dC, dI) classes (tyK cI cL cB) [.ref tr] [(tr, .inr (1, [.int (nI nT), .ref y1, .ref y2, .ref y3, .ref y4, .ref y5]))] (fun (u : Unit) => True) (fun (u : Unit) => [(tr, .inr (1, [.int (nI 0), .ref y1, .ref y2, .ref y3, .ref y4, .ref y5]))]) := by
  refine StdV.mk (cc := b_T_forget) (maxL := 1) (by decide) rfl (Nat.le_of_ble_eq_true rfl) ?_
  intro p e s m below meth c A Z ls hx hb hml hown hts hin hP hK hD hA hS hret hl
  have hown : s.vm.findClass R_T = some m.cls := hown
  have hw : ∀ x ∈ WALL, x.before _ s = true := fun x h => hts x (List.mem_cons_of_mem _ h)
  have hl : lv_has ls 1 [(0, .ref tr)] := hl
  refine lv_aload_n hx hb d_T_forget_0 rfl (lv_at hl 0 rfl) ?_
  refine lv_iconst (v := nI 0) hx hb d_T_forget_1 (by decide) ?_
  refine va_put (D := (dC, dI)) (ci := 1) (v := .int (nI 0)) (ty := .int) (C := R_T) (T := T_T) (N := 6) hx hb hw in_T ty_T tyok_T nn_T hown hK hP hD hS 0 rfl rfl 0 (by decide) (hw _ m_22) (fun _ h9 => h9) rfl (by decide +kernel) rfl rfl (Nat.le_of_ble_eq_true rfl) d_T_forget_2 (fun H locs hP hD hS => ?_)
  have hP : va_P (dC, dI) classes [(tr, .inr (1, [.int (nI 0), .ref y1, .ref y2, .ref y3, .ref y4, .ref y5]))] H := hP
  have hD : va_D A [(tr, .inr (1, [.int (nI 0), .ref y1, .ref y2, .ref y3, .ref y4, .ref y5]))] := hD
  exact hret () _ _ 5 ls trivial hP hD hS d_T_forget_5
set_option maxHeartbeats 4000000 in
set_option maxRecDepth 100000 in
/-- TableRows.grow -/
theorem c_Tgrow (l : Launch) (dC : Nat → ClassId) (dI : Nat → Nat → Nat) (cI cL cB : ClassId) (tr : Nat) (y1 : Nat) (y2 : Nat) (y3 : Nat) (y4 : Nat) (y5 : Nat) (nT : Nat) (gt : Nat) (fi : Nat → Nat) (la : Nat → Nat) (kc : Nat → Nat) (vc : Nat → Nat) (bo : Nat → Nat) (hg : gt < 11) : StdV l y_T_grow (wd y_T_grow b_T_grow 2 none) 2 50 5 (5 * hz_R (gt + 1)) (dC, dI) classes (tyK cI cL cB) [.ref tr] [(tr, .inr (1, [.int (nI nT), .ref y1, .ref y2, .ref y3, .ref y4, .ref y5])), (y1, .inl (cI, hz_R gt, .inl (nf fi))), (y2, .inl (cI, hz_R gt, .inl (nf la))), (y3, .inl (cI, hz_R gt, .inl (nf kc))), (y4, .inl (cI, hz_R gt, .inl (nf vc))), (y5, .inl (cI, hz_R gt, .inl (nf bo)))] (fun (u : Nat × Nat × Nat × Nat × Nat × (Nat → Nat) × (Nat → Nat) × (Nat → Nat) × (Nat → Nat) × (Nat → Nat)) => (∀ i, i < hz_R gt → u.2.2.2.2.2.1 i = fi i ∧ u.2.2.2.2.2.2.1 i = la i ∧ u.2.2.2.2.2.2.2.1 i = kc i ∧ u.2.2.2.2.2.2.2.2.1 i = vc i ∧ u.2.2.2.2.2.2.2.2.2 i = bo i)) (fun (u : Nat × Nat × Nat × Nat × Nat × (Nat → Nat) × (Nat → Nat) × (Nat → Nat) × (Nat → Nat) × (Nat → Nat)) => [(tr, .inr (1, [.int (nI nT), .ref u.1, .ref u.2.1, .ref u.2.2.1, .ref u.2.2.2.1, .ref u.2.2.2.2.1])), (u.1, .inl (cI, hz_R (gt + 1), .inl (nf u.2.2.2.2.2.1))), (u.2.1, .inl (cI, hz_R (gt + 1), .inl (nf u.2.2.2.2.2.2.1))), (u.2.2.1, .inl (cI, hz_R (gt + 1), .inl (nf u.2.2.2.2.2.2.2.1))), (u.2.2.2.1, .inl (cI, hz_R (gt + 1), .inl (nf u.2.2.2.2.2.2.2.2.1))), (u.2.2.2.2.1, .inl (cI, hz_R (gt + 1), .inl (nf u.2.2.2.2.2.2.2.2.2)))]) := by
  have hg1 := hz_Rgen gt (by omega)
  have hg2 := hz_Rgen (gt + 1) (by omega)
  obtain ⟨hg3, hg5⟩ := hz_Rgrow gt hg
  refine StdV.mk (cc := b_T_grow) (maxL := 2) (by decide) rfl (Nat.le_of_ble_eq_true rfl) ?_
  intro p e s m below meth c A Z ls hx hb hml hown hts hin hP hK hD hA hS hret hl
  have hown : s.vm.findClass R_T = some m.cls := hown
  have hw : ∀ x ∈ WALL, x.before _ s = true := fun x h => hts x (List.mem_cons_of_mem _ h)
  have hl : lv_has ls 2 [(0, .ref tr)] := hl
  refine lv_aload_n hx hb d_T_grow_0 rfl (lv_at hl 0 rfl) ?_
  refine va_get (D := (dC, dI)) (ci := 1) (v := .ref y1) (C := R_T) (T := T_T) (N := 6) hx hb hw in_T hown hK hP 0 rfl rfl 1 (by decide) (hw _ m_24) (fun _ h9 => h9) rfl d_T_grow_1 ?_
  refine fz_alen hx hb hK hP 1 0 rfl rfl d_T_grow_4 ?_
  refine lv_iconst (v := nI 2) hx hb d_T_grow_5 (by decide) ?_
  refine lv_imul hx hb d_T_grow_6 ?_
  refine fz_eqi (y := nI ((hz_R gt) * 2)) (pk_mul (hz_R gt) 2) ?_
  refine lv_sipush (v := nI 30001) hx hb d_T_grow_7 (by decide) ?_
  refine va_mmin hx hb (hml.trans hl.1.symm) hown (hw _ m_108) (hw _ m_109) (hw _ m_5) (hw _ m_110) (Nat.le_of_ble_eq_true rfl) (Nat.le_of_ble_eq_true rfl) (by (try dsimp only); omega) (by (try dsimp only); omega) d_T_grow_10 ?_
  refine fz_eqi (y := nI (hz_R (gt + 1))) (fz_minN (by omega) (by omega) hg3) ?_
  refine lv_istore_n (lv' := [(1, .int (nI (hz_R (gt + 1)))), (0, .ref tr)]) hx hb d_T_grow_13 rfl hl (by decide) rfl (fun ls hl => ?_)
  refine lv_aload_n hx hb d_T_grow_14 rfl (lv_at hl 1 rfl) ?_
  refine lv_aload_n hx hb d_T_grow_15 rfl (lv_at hl 1 rfl) ?_
  refine va_get (D := (dC, dI)) (ci := 1) (v := .ref y1) (C := R_T) (T := T_T) (N := 6) hx hb hw in_T hown hK hP 0 rfl rfl 1 (by decide) (hw _ m_24) (fun _ h9 => h9) rfl d_T_grow_16 ?_
  refine lv_iload_n hx hb d_T_grow_19 rfl (lv_at hl 0 rfl) ?_
  refine StdR.callS (wr := [(tr, .inr (1, [.int (nI nT), .ref y1, .ref y2, .ref y3, .ref y4, .ref y5])), (y2, .inl (cI, hz_R gt, .inl (nf la))), (y3, .inl (cI, hz_R gt, .inl (nf kc))), (y4, .inl (cI, hz_R gt, .inl (nf vc))), (y5, .inl (cI, hz_R gt, .inl (nf bo)))]) (c_copyOf_i l dC dI cI cL cB y1 (hz_R gt) (hz_R (gt + 1)) fi (by omega) (by omega)) ⟨hx, hb, hml, hown, hw⟩ (fz_cwS 2 hw m_113 m_111 m_112 m_6 rfl rfl (by decide +kernel) ⟨Nat.le_of_ble_eq_true rfl, Nat.le_of_ble_eq_true rfl⟩) hK hP hD hS hA [1] [0, 2, 3, 4, 5] rfl rfl (by decide) (by decide) (by decide) rfl hl.1 rfl (Nat.le_of_ble_eq_true rfl) d_T_grow_20 ⟨(by (try dsimp only); omega), (by (try dsimp only); omega)⟩ (fun r20 u20 H locs h20 hP hD hS => ?_)
  try dsimp only at h20
  have hP : va_P (dC, dI) classes [(tr, .inr (1, [.int (nI nT), .ref y1, .ref y2, .ref y3, .ref y4, .ref y5])), (y2, .inl (cI, hz_R gt, .inl (nf la))), (y3, .inl (cI, hz_R gt, .inl (nf kc))), (y4, .inl (cI, hz_R gt, .inl (nf vc))), (y5, .inl (cI, hz_R gt, .inl (nf bo))), (y1, .inl (cI, (hz_R gt), .inl (nf fi))), (r20, .inl (cI, (hz_R (gt + 1)), .inl (nf (cpz fi (fun _ => 0) (hz_R gt)))))] H := hP
  have hD : va_D A [(tr, .inr (1, [.int (nI nT), .ref y1, .ref y2, .ref y3, .ref y4, .ref y5])), (y2, .inl (cI, hz_R gt, .inl (nf la))), (y3, .inl (cI, hz_R gt, .inl (nf kc))), (y4, .inl (cI, hz_R gt, .inl (nf vc))), (y5, .inl (cI, hz_R gt, .inl (nf bo))), (y1, .inl (cI, (hz_R gt), .inl (nf fi))), (r20, .inl (cI, (hz_R (gt + 1)), .inl (nf (cpz fi (fun _ => 0) (hz_R gt)))))] := hD
  refine W.widen (k := 1) (n := (hz_R (gt + 1))) (by omega) (by omega) ?_
  obtain ⟨fi2, efi2⟩ : ∃ z, z = cpz fi (fun _ => 0) (hz_R gt) := ⟨_, rfl⟩
  rw [← efi2] at hP hD
  have hP : va_P (dC, dI) classes [(tr, .inr (1, [.int (nI nT), .ref y1, .ref y2, .ref y3, .ref y4, .ref y5])), (y2, .inl (cI, hz_R gt, .inl (nf la))), (y3, .inl (cI, hz_R gt, .inl (nf kc))), (y4, .inl (cI, hz_R gt, .inl (nf vc))), (y5, .inl (cI, hz_R gt, .inl (nf bo))), (y1, .inl (cI, (hz_R gt), .inl (nf fi))), (r20, .inl (cI, (hz_R (gt + 1)), .inl (nf fi2)))] H := hP
  have hD : va_D A [(tr, .inr (1, [.int (nI nT), .ref y1, .ref y2, .ref y3, .ref y4, .ref y5])), (y2, .inl (cI, hz_R gt, .inl (nf la))), (y3, .inl (cI, hz_R gt, .inl (nf kc))), (y4, .inl (cI, hz_R gt, .inl (nf vc))), (y5, .inl (cI, hz_R gt, .inl (nf bo))), (y1, .inl (cI, (hz_R gt), .inl (nf fi))), (r20, .inl (cI, (hz_R (gt + 1)), .inl (nf fi2)))] := hD
  refine va_put (D := (dC, dI)) (ci := 1) (v := .ref r20) (ty := .array .int) (C := R_T) (T := T_T) (N := 6) hx hb hw in_T ty_T tyok_T nn_T hown hK hP hD hS 0 rfl rfl 1 (by decide) (hw _ m_24) (fun _ h9 => h9) rfl (by decide +kernel) rfl rfl (Nat.le_of_ble_eq_true rfl) d_T_grow_23 (fun H locs hP hD hS => ?_)
  have hP : va_P (dC, dI) classes [(tr, .inr (1, [.int (nI nT), .ref r20, .ref y2, .ref y3, .ref y4, .ref y5])), (y2, .inl (cI, hz_R gt, .inl (nf la))), (y3, .inl (cI, hz_R gt, .inl (nf kc))), (y4, .inl (cI, hz_R gt, .inl (nf vc))), (y5, .inl (cI, hz_R gt, .inl (nf bo))), (y1, .inl (cI, (hz_R gt), .inl (nf fi))), (r20, .inl (cI, (hz_R (gt + 1)), .inl (nf fi2)))] H := hP
  have hD : va_D A [(tr, .inr (1, [.int (nI nT), .ref r20, .ref y2, .ref y3, .ref y4, .ref y5])), (y2, .inl (cI, hz_R gt, .inl (nf la))), (y3, .inl (cI, hz_R gt, .inl (nf kc))), (y4, .inl (cI, hz_R gt, .inl (nf vc))), (y5, .inl (cI, hz_R gt, .inl (nf bo))), (y1, .inl (cI, (hz_R gt), .inl (nf fi))), (r20, .inl (cI, (hz_R (gt + 1)), .inl (nf fi2)))] := hD
  refine lv_aload_n hx hb d_T_grow_26 rfl (lv_at hl 1 rfl) ?_
  refine lv_aload_n hx hb d_T_grow_27 rfl (lv_at hl 1 rfl) ?_
  refine va_get (D := (dC, dI)) (ci := 1) (v := .ref y2) (C := R_T) (T := T_T) (N := 6) hx hb hw in_T hown hK hP 0 rfl rfl 2 (by decide) (hw _ m_26) (fun _ h9 => h9) rfl d_T_grow_28 ?_
  refine lv_iload_n hx hb d_T_grow_31 rfl (lv_at hl 0 rfl) ?_
  refine StdR.callS (wr := [(tr, .inr (1, [.int (nI nT), .ref r20, .ref y2, .ref y3, .ref y4, .ref y5])), (y3, .inl (cI, hz_R gt, .inl (nf kc))), (y4, .inl (cI, hz_R gt, .inl (nf vc))), (y5, .inl (cI, hz_R gt, .inl (nf bo))), (y1, .inl (cI, (hz_R gt), .inl (nf fi))), (r20, .inl (cI, (hz_R (gt + 1)), .inl (nf fi2)))]) (c_copyOf_i l dC dI cI cL cB y2 (hz_R gt) (hz_R (gt + 1)) la (by omega) (by omega)) ⟨hx, hb, hml, hown, hw⟩ (fz_cwS 2 hw m_113 m_111 m_112 m_6 rfl rfl (by decide +kernel) ⟨Nat.le_of_ble_eq_true rfl, Nat.le_of_ble_eq_true rfl⟩) hK hP hD hS hA [1] [0, 2, 3, 4, 5, 6] rfl rfl (by decide) (by decide) (by decide) rfl hl.1 rfl (Nat.le_of_ble_eq_true rfl) d_T_grow_32 ⟨(by (try dsimp only); omega), (by (try dsimp only); omega)⟩ (fun r32 u32 H locs h32 hP hD hS => ?_)
  try dsimp only at h32
  have hP : va_P (dC, dI) classes [(tr, .inr (1, [.int (nI nT), .ref r20, .ref y2, .ref y3, .ref y4, .ref y5])), (y3, .inl (cI, hz_R gt, .inl (nf kc))), (y4, .inl (cI, hz_R gt, .inl (nf vc))), (y5, .inl (cI, hz_R gt, .inl (nf bo))), (y1, .inl (cI, (hz_R gt), .inl (nf fi))), (r20, .inl (cI, (hz_R (gt + 1)), .inl (nf fi2))), (y2, .inl (cI, (hz_R gt), .inl (nf la))), (r32, .inl (cI, (hz_R (gt + 1)), .inl (nf (cpz la (fun _ => 0) (hz_R gt)))))] H := hP
  have hD : va_D A [(tr, .inr (1, [.int (nI nT), .ref r20, .ref y2, .ref y3, .ref y4, .ref y5])), (y3, .inl (cI, hz_R gt, .inl (nf kc))), (y4, .inl (cI, hz_R gt, .inl (nf vc))), (y5, .inl (cI, hz_R gt, .inl (nf bo))), (y1, .inl (cI, (hz_R gt), .inl (nf fi))), (r20, .inl (cI, (hz_R (gt + 1)), .inl (nf fi2))), (y2, .inl (cI, (hz_R gt), .inl (nf la))), (r32, .inl (cI, (hz_R (gt + 1)), .inl (nf (cpz la (fun _ => 0) (hz_R gt)))))] := hD
  refine W.widen (k := 2) (n := (hz_R (gt + 1)) + (hz_R (gt + 1))) (by omega) (by omega) ?_
  obtain ⟨la2, ela2⟩ : ∃ z, z = cpz la (fun _ => 0) (hz_R gt) := ⟨_, rfl⟩
  rw [← ela2] at hP hD
  have hP : va_P (dC, dI) classes [(tr, .inr (1, [.int (nI nT), .ref r20, .ref y2, .ref y3, .ref y4, .ref y5])), (y3, .inl (cI, hz_R gt, .inl (nf kc))), (y4, .inl (cI, hz_R gt, .inl (nf vc))), (y5, .inl (cI, hz_R gt, .inl (nf bo))), (y1, .inl (cI, (hz_R gt), .inl (nf fi))), (r20, .inl (cI, (hz_R (gt + 1)), .inl (nf fi2))), (y2, .inl (cI, (hz_R gt), .inl (nf la))), (r32, .inl (cI, (hz_R (gt + 1)), .inl (nf la2)))] H := hP
  have hD : va_D A [(tr, .inr (1, [.int (nI nT), .ref r20, .ref y2, .ref y3, .ref y4, .ref y5])), (y3, .inl (cI, hz_R gt, .inl (nf kc))), (y4, .inl (cI, hz_R gt, .inl (nf vc))), (y5, .inl (cI, hz_R gt, .inl (nf bo))), (y1, .inl (cI, (hz_R gt), .inl (nf fi))), (r20, .inl (cI, (hz_R (gt + 1)), .inl (nf fi2))), (y2, .inl (cI, (hz_R gt), .inl (nf la))), (r32, .inl (cI, (hz_R (gt + 1)), .inl (nf la2)))] := hD
  refine va_put (D := (dC, dI)) (ci := 1) (v := .ref r32) (ty := .array .int) (C := R_T) (T := T_T) (N := 6) hx hb hw in_T ty_T tyok_T nn_T hown hK hP hD hS 0 rfl rfl 2 (by decide) (hw _ m_26) (fun _ h9 => h9) rfl (by decide +kernel) rfl rfl (Nat.le_of_ble_eq_true rfl) d_T_grow_35 (fun H locs hP hD hS => ?_)
  have hP : va_P (dC, dI) classes [(tr, .inr (1, [.int (nI nT), .ref r20, .ref r32, .ref y3, .ref y4, .ref y5])), (y3, .inl (cI, hz_R gt, .inl (nf kc))), (y4, .inl (cI, hz_R gt, .inl (nf vc))), (y5, .inl (cI, hz_R gt, .inl (nf bo))), (y1, .inl (cI, (hz_R gt), .inl (nf fi))), (r20, .inl (cI, (hz_R (gt + 1)), .inl (nf fi2))), (y2, .inl (cI, (hz_R gt), .inl (nf la))), (r32, .inl (cI, (hz_R (gt + 1)), .inl (nf la2)))] H := hP
  have hD : va_D A [(tr, .inr (1, [.int (nI nT), .ref r20, .ref r32, .ref y3, .ref y4, .ref y5])), (y3, .inl (cI, hz_R gt, .inl (nf kc))), (y4, .inl (cI, hz_R gt, .inl (nf vc))), (y5, .inl (cI, hz_R gt, .inl (nf bo))), (y1, .inl (cI, (hz_R gt), .inl (nf fi))), (r20, .inl (cI, (hz_R (gt + 1)), .inl (nf fi2))), (y2, .inl (cI, (hz_R gt), .inl (nf la))), (r32, .inl (cI, (hz_R (gt + 1)), .inl (nf la2)))] := hD
  refine lv_aload_n hx hb d_T_grow_38 rfl (lv_at hl 1 rfl) ?_
  refine lv_aload_n hx hb d_T_grow_39 rfl (lv_at hl 1 rfl) ?_
  refine va_get (D := (dC, dI)) (ci := 1) (v := .ref y3) (C := R_T) (T := T_T) (N := 6) hx hb hw in_T hown hK hP 0 rfl rfl 3 (by decide) (hw _ m_28) (fun _ h9 => h9) rfl d_T_grow_40 ?_
  refine lv_iload_n hx hb d_T_grow_43 rfl (lv_at hl 0 rfl) ?_
  refine StdR.callS (wr := [(tr, .inr (1, [.int (nI nT), .ref r20, .ref r32, .ref y3, .ref y4, .ref y5])), (y4, .inl (cI, hz_R gt, .inl (nf vc))), (y5, .inl (cI, hz_R gt, .inl (nf bo))), (y1, .inl (cI, (hz_R gt), .inl (nf fi))), (r20, .inl (cI, (hz_R (gt + 1)), .inl (nf fi2))), (y2, .inl (cI, (hz_R gt), .inl (nf la))), (r32, .inl (cI, (hz_R (gt + 1)), .inl (nf la2)))]) (c_copyOf_i l dC dI cI cL cB y3 (hz_R gt) (hz_R (gt + 1)) kc (by omega) (by omega)) ⟨hx, hb, hml, hown, hw⟩ (fz_cwS 2 hw m_113 m_111 m_112 m_6 rfl rfl (by decide +kernel) ⟨Nat.le_of_ble_eq_true rfl, Nat.le_of_ble_eq_true rfl⟩) hK hP hD hS hA [1] [0, 2, 3, 4, 5, 6, 7] rfl rfl (by decide) (by decide) (by decide) rfl hl.1 rfl (Nat.le_of_ble_eq_true rfl) d_T_grow_44 ⟨(by (try dsimp only); omega), (by (try dsimp only); omega)⟩ (fun r44 u44 H locs h44 hP hD hS => ?_)
  try dsimp only at h44
  have hP : va_P (dC, dI) classes [(tr, .inr (1, [.int (nI nT), .ref r20, .ref r32, .ref y3, .ref y4, .ref y5])), (y4, .inl (cI, hz_R gt, .inl (nf vc))), (y5, .inl (cI, hz_R gt, .inl (nf bo))), (y1, .inl (cI, (hz_R gt), .inl (nf fi))), (r20, .inl (cI, (hz_R (gt + 1)), .inl (nf fi2))), (y2, .inl (cI, (hz_R gt), .inl (nf la))), (r32, .inl (cI, (hz_R (gt + 1)), .inl (nf la2))), (y3, .inl (cI, (hz_R gt), .inl (nf kc))), (r44, .inl (cI, (hz_R (gt + 1)), .inl (nf (cpz kc (fun _ => 0) (hz_R gt)))))] H := hP
  have hD : va_D A [(tr, .inr (1, [.int (nI nT), .ref r20, .ref r32, .ref y3, .ref y4, .ref y5])), (y4, .inl (cI, hz_R gt, .inl (nf vc))), (y5, .inl (cI, hz_R gt, .inl (nf bo))), (y1, .inl (cI, (hz_R gt), .inl (nf fi))), (r20, .inl (cI, (hz_R (gt + 1)), .inl (nf fi2))), (y2, .inl (cI, (hz_R gt), .inl (nf la))), (r32, .inl (cI, (hz_R (gt + 1)), .inl (nf la2))), (y3, .inl (cI, (hz_R gt), .inl (nf kc))), (r44, .inl (cI, (hz_R (gt + 1)), .inl (nf (cpz kc (fun _ => 0) (hz_R gt)))))] := hD
  refine W.widen (k := 3) (n := ((hz_R (gt + 1)) + (hz_R (gt + 1))) + (hz_R (gt + 1))) (by omega) (by omega) ?_
  obtain ⟨kc2, ekc2⟩ : ∃ z, z = cpz kc (fun _ => 0) (hz_R gt) := ⟨_, rfl⟩
  rw [← ekc2] at hP hD
  have hP : va_P (dC, dI) classes [(tr, .inr (1, [.int (nI nT), .ref r20, .ref r32, .ref y3, .ref y4, .ref y5])), (y4, .inl (cI, hz_R gt, .inl (nf vc))), (y5, .inl (cI, hz_R gt, .inl (nf bo))), (y1, .inl (cI, (hz_R gt), .inl (nf fi))), (r20, .inl (cI, (hz_R (gt + 1)), .inl (nf fi2))), (y2, .inl (cI, (hz_R gt), .inl (nf la))), (r32, .inl (cI, (hz_R (gt + 1)), .inl (nf la2))), (y3, .inl (cI, (hz_R gt), .inl (nf kc))), (r44, .inl (cI, (hz_R (gt + 1)), .inl (nf kc2)))] H := hP
  have hD : va_D A [(tr, .inr (1, [.int (nI nT), .ref r20, .ref r32, .ref y3, .ref y4, .ref y5])), (y4, .inl (cI, hz_R gt, .inl (nf vc))), (y5, .inl (cI, hz_R gt, .inl (nf bo))), (y1, .inl (cI, (hz_R gt), .inl (nf fi))), (r20, .inl (cI, (hz_R (gt + 1)), .inl (nf fi2))), (y2, .inl (cI, (hz_R gt), .inl (nf la))), (r32, .inl (cI, (hz_R (gt + 1)), .inl (nf la2))), (y3, .inl (cI, (hz_R gt), .inl (nf kc))), (r44, .inl (cI, (hz_R (gt + 1)), .inl (nf kc2)))] := hD
  refine va_put (D := (dC, dI)) (ci := 1) (v := .ref r44) (ty := .array .int) (C := R_T) (T := T_T) (N := 6) hx hb hw in_T ty_T tyok_T nn_T hown hK hP hD hS 0 rfl rfl 3 (by decide) (hw _ m_28) (fun _ h9 => h9) rfl (by decide +kernel) rfl rfl (Nat.le_of_ble_eq_true rfl) d_T_grow_47 (fun H locs hP hD hS => ?_)
  have hP : va_P (dC, dI) classes [(tr, .inr (1, [.int (nI nT), .ref r20, .ref r32, .ref r44, .ref y4, .ref y5])), (y4, .inl (cI, hz_R gt, .inl (nf vc))), (y5, .inl (cI, hz_R gt, .inl (nf bo))), (y1, .inl (cI, (hz_R gt), .inl (nf fi))), (r20, .inl (cI, (hz_R (gt + 1)), .inl (nf fi2))), (y2, .inl (cI, (hz_R gt), .inl (nf la))), (r32, .inl (cI, (hz_R (gt + 1)), .inl (nf la2))), (y3, .inl (cI, (hz_R gt), .inl (nf kc))), (r44, .inl (cI, (hz_R (gt + 1)), .inl (nf kc2)))] H := hP
  have hD : va_D A [(tr, .inr (1, [.int (nI nT), .ref r20, .ref r32, .ref r44, .ref y4, .ref y5])), (y4, .inl (cI, hz_R gt, .inl (nf vc))), (y5, .inl (cI, hz_R gt, .inl (nf bo))), (y1, .inl (cI, (hz_R gt), .inl (nf fi))), (r20, .inl (cI, (hz_R (gt + 1)), .inl (nf fi2))), (y2, .inl (cI, (hz_R gt), .inl (nf la))), (r32, .inl (cI, (hz_R (gt + 1)), .inl (nf la2))), (y3, .inl (cI, (hz_R gt), .inl (nf kc))), (r44, .inl (cI, (hz_R (gt + 1)), .inl (nf kc2)))] := hD
  refine lv_aload_n hx hb d_T_grow_50 rfl (lv_at hl 1 rfl) ?_
  refine lv_aload_n hx hb d_T_grow_51 rfl (lv_at hl 1 rfl) ?_
  refine va_get (D := (dC, dI)) (ci := 1) (v := .ref y4) (C := R_T) (T := T_T) (N := 6) hx hb hw in_T hown hK hP 0 rfl rfl 4 (by decide) (hw _ m_30) (fun _ h9 => h9) rfl d_T_grow_52 ?_
  refine lv_iload_n hx hb d_T_grow_55 rfl (lv_at hl 0 rfl) ?_
  refine StdR.callS (wr := [(tr, .inr (1, [.int (nI nT), .ref r20, .ref r32, .ref r44, .ref y4, .ref y5])), (y5, .inl (cI, hz_R gt, .inl (nf bo))), (y1, .inl (cI, (hz_R gt), .inl (nf fi))), (r20, .inl (cI, (hz_R (gt + 1)), .inl (nf fi2))), (y2, .inl (cI, (hz_R gt), .inl (nf la))), (r32, .inl (cI, (hz_R (gt + 1)), .inl (nf la2))), (y3, .inl (cI, (hz_R gt), .inl (nf kc))), (r44, .inl (cI, (hz_R (gt + 1)), .inl (nf kc2)))]) (c_copyOf_i l dC dI cI cL cB y4 (hz_R gt) (hz_R (gt + 1)) vc (by omega) (by omega)) ⟨hx, hb, hml, hown, hw⟩ (fz_cwS 2 hw m_113 m_111 m_112 m_6 rfl rfl (by decide +kernel) ⟨Nat.le_of_ble_eq_true rfl, Nat.le_of_ble_eq_true rfl⟩) hK hP hD hS hA [1] [0, 2, 3, 4, 5, 6, 7, 8] rfl rfl (by decide) (by decide) (by decide) rfl hl.1 rfl (Nat.le_of_ble_eq_true rfl) d_T_grow_56 ⟨(by (try dsimp only); omega), (by (try dsimp only); omega)⟩ (fun r56 u56 H locs h56 hP hD hS => ?_)
  try dsimp only at h56
  have hP : va_P (dC, dI) classes [(tr, .inr (1, [.int (nI nT), .ref r20, .ref r32, .ref r44, .ref y4, .ref y5])), (y5, .inl (cI, hz_R gt, .inl (nf bo))), (y1, .inl (cI, (hz_R gt), .inl (nf fi))), (r20, .inl (cI, (hz_R (gt + 1)), .inl (nf fi2))), (y2, .inl (cI, (hz_R gt), .inl (nf la))), (r32, .inl (cI, (hz_R (gt + 1)), .inl (nf la2))), (y3, .inl (cI, (hz_R gt), .inl (nf kc))), (r44, .inl (cI, (hz_R (gt + 1)), .inl (nf kc2))), (y4, .inl (cI, (hz_R gt), .inl (nf vc))), (r56, .inl (cI, (hz_R (gt + 1)), .inl (nf (cpz vc (fun _ => 0) (hz_R gt)))))] H := hP
  have hD : va_D A [(tr, .inr (1, [.int (nI nT), .ref r20, .ref r32, .ref r44, .ref y4, .ref y5])), (y5, .inl (cI, hz_R gt, .inl (nf bo))), (y1, .inl (cI, (hz_R gt), .inl (nf fi))), (r20, .inl (cI, (hz_R (gt + 1)), .inl (nf fi2))), (y2, .inl (cI, (hz_R gt), .inl (nf la))), (r32, .inl (cI, (hz_R (gt + 1)), .inl (nf la2))), (y3, .inl (cI, (hz_R gt), .inl (nf kc))), (r44, .inl (cI, (hz_R (gt + 1)), .inl (nf kc2))), (y4, .inl (cI, (hz_R gt), .inl (nf vc))), (r56, .inl (cI, (hz_R (gt + 1)), .inl (nf (cpz vc (fun _ => 0) (hz_R gt)))))] := hD
  refine W.widen (k := 4) (n := (((hz_R (gt + 1)) + (hz_R (gt + 1))) + (hz_R (gt + 1))) + (hz_R (gt + 1))) (by omega) (by omega) ?_
  obtain ⟨vc2, evc2⟩ : ∃ z, z = cpz vc (fun _ => 0) (hz_R gt) := ⟨_, rfl⟩
  rw [← evc2] at hP hD
  have hP : va_P (dC, dI) classes [(tr, .inr (1, [.int (nI nT), .ref r20, .ref r32, .ref r44, .ref y4, .ref y5])), (y5, .inl (cI, hz_R gt, .inl (nf bo))), (y1, .inl (cI, (hz_R gt), .inl (nf fi))), (r20, .inl (cI, (hz_R (gt + 1)), .inl (nf fi2))), (y2, .inl (cI, (hz_R gt), .inl (nf la))), (r32, .inl (cI, (hz_R (gt + 1)), .inl (nf la2))), (y3, .inl (cI, (hz_R gt), .inl (nf kc))), (r44, .inl (cI, (hz_R (gt + 1)), .inl (nf kc2))), (y4, .inl (cI, (hz_R gt), .inl (nf vc))), (r56, .inl (cI, (hz_R (gt + 1)), .inl (nf vc2)))] H := hP
  have hD : va_D A [(tr, .inr (1, [.int (nI nT), .ref r20, .ref r32, .ref r44, .ref y4, .ref y5])), (y5, .inl (cI, hz_R gt, .inl (nf bo))), (y1, .inl (cI, (hz_R gt), .inl (nf fi))), (r20, .inl (cI, (hz_R (gt + 1)), .inl (nf fi2))), (y2, .inl (cI, (hz_R gt), .inl (nf la))), (r32, .inl (cI, (hz_R (gt + 1)), .inl (nf la2))), (y3, .inl (cI, (hz_R gt), .inl (nf kc))), (r44, .inl (cI, (hz_R (gt + 1)), .inl (nf kc2))), (y4, .inl (cI, (hz_R gt), .inl (nf vc))), (r56, .inl (cI, (hz_R (gt + 1)), .inl (nf vc2)))] := hD
  refine va_put (D := (dC, dI)) (ci := 1) (v := .ref r56) (ty := .array .int) (C := R_T) (T := T_T) (N := 6) hx hb hw in_T ty_T tyok_T nn_T hown hK hP hD hS 0 rfl rfl 4 (by decide) (hw _ m_30) (fun _ h9 => h9) rfl (by decide +kernel) rfl rfl (Nat.le_of_ble_eq_true rfl) d_T_grow_59 (fun H locs hP hD hS => ?_)
  have hP : va_P (dC, dI) classes [(tr, .inr (1, [.int (nI nT), .ref r20, .ref r32, .ref r44, .ref r56, .ref y5])), (y5, .inl (cI, hz_R gt, .inl (nf bo))), (y1, .inl (cI, (hz_R gt), .inl (nf fi))), (r20, .inl (cI, (hz_R (gt + 1)), .inl (nf fi2))), (y2, .inl (cI, (hz_R gt), .inl (nf la))), (r32, .inl (cI, (hz_R (gt + 1)), .inl (nf la2))), (y3, .inl (cI, (hz_R gt), .inl (nf kc))), (r44, .inl (cI, (hz_R (gt + 1)), .inl (nf kc2))), (y4, .inl (cI, (hz_R gt), .inl (nf vc))), (r56, .inl (cI, (hz_R (gt + 1)), .inl (nf vc2)))] H := hP
  have hD : va_D A [(tr, .inr (1, [.int (nI nT), .ref r20, .ref r32, .ref r44, .ref r56, .ref y5])), (y5, .inl (cI, hz_R gt, .inl (nf bo))), (y1, .inl (cI, (hz_R gt), .inl (nf fi))), (r20, .inl (cI, (hz_R (gt + 1)), .inl (nf fi2))), (y2, .inl (cI, (hz_R gt), .inl (nf la))), (r32, .inl (cI, (hz_R (gt + 1)), .inl (nf la2))), (y3, .inl (cI, (hz_R gt), .inl (nf kc))), (r44, .inl (cI, (hz_R (gt + 1)), .inl (nf kc2))), (y4, .inl (cI, (hz_R gt), .inl (nf vc))), (r56, .inl (cI, (hz_R (gt + 1)), .inl (nf vc2)))] := hD
  refine lv_aload_n hx hb d_T_grow_62 rfl (lv_at hl 1 rfl) ?_
  refine lv_aload_n hx hb d_T_grow_63 rfl (lv_at hl 1 rfl) ?_
  refine va_get (D := (dC, dI)) (ci := 1) (v := .ref y5) (C := R_T) (T := T_T) (N := 6) hx hb hw in_T hown hK hP 0 rfl rfl 5 (by decide) (hw _ m_32) (fun _ h9 => h9) rfl d_T_grow_64 ?_
  refine lv_iload_n hx hb d_T_grow_67 rfl (lv_at hl 0 rfl) ?_
  refine StdR.callS (wr := [(tr, .inr (1, [.int (nI nT), .ref r20, .ref r32, .ref r44, .ref r56, .ref y5])), (y1, .inl (cI, (hz_R gt), .inl (nf fi))), (r20, .inl (cI, (hz_R (gt + 1)), .inl (nf fi2))), (y2, .inl (cI, (hz_R gt), .inl (nf la))), (r32, .inl (cI, (hz_R (gt + 1)), .inl (nf la2))), (y3, .inl (cI, (hz_R gt), .inl (nf kc))), (r44, .inl (cI, (hz_R (gt + 1)), .inl (nf kc2))), (y4, .inl (cI, (hz_R gt), .inl (nf vc))), (r56, .inl (cI, (hz_R (gt + 1)), .inl (nf vc2)))]) (c_copyOf_i l dC dI cI cL cB y5 (hz_R gt) (hz_R (gt + 1)) bo (by omega) (by omega)) ⟨hx, hb, hml, hown, hw⟩ (fz_cwS 2 hw m_113 m_111 m_112 m_6 rfl rfl (by decide +kernel) ⟨Nat.le_of_ble_eq_true rfl, Nat.le_of_ble_eq_true rfl⟩) hK hP hD hS hA [1] [0, 2, 3, 4, 5, 6, 7, 8, 9] rfl rfl (by decide) (by decide) (by decide) rfl hl.1 rfl (Nat.le_of_ble_eq_true rfl) d_T_grow_68 ⟨(by (try dsimp only); omega), (by (try dsimp only); omega)⟩ (fun r68 u68 H locs h68 hP hD hS => ?_)
  try dsimp only at h68
  have hP : va_P (dC, dI) classes [(tr, .inr (1, [.int (nI nT), .ref r20, .ref r32, .ref r44, .ref r56, .ref y5])), (y1, .inl (cI, (hz_R gt), .inl (nf fi))), (r20, .inl (cI, (hz_R (gt + 1)), .inl (nf fi2))), (y2, .inl (cI, (hz_R gt), .inl (nf la))), (r32, .inl (cI, (hz_R (gt + 1)), .inl (nf la2))), (y3, .inl (cI, (hz_R gt), .inl (nf kc))), (r44, .inl (cI, (hz_R (gt + 1)), .inl (nf kc2))), (y4, .inl (cI, (hz_R gt), .inl (nf vc))), (r56, .inl (cI, (hz_R (gt + 1)), .inl (nf vc2))), (y5, .inl (cI, (hz_R gt), .inl (nf bo))), (r68, .inl (cI, (hz_R (gt + 1)), .inl (nf (cpz bo (fun _ => 0) (hz_R gt)))))] H := hP
  have hD : va_D A [(tr, .inr (1, [.int (nI nT), .ref r20, .ref r32, .ref r44, .ref r56, .ref y5])), (y1, .inl (cI, (hz_R gt), .inl (nf fi))), (r20, .inl (cI, (hz_R (gt + 1)), .inl (nf fi2))), (y2, .inl (cI, (hz_R gt), .inl (nf la))), (r32, .inl (cI, (hz_R (gt + 1)), .inl (nf la2))), (y3, .inl (cI, (hz_R gt), .inl (nf kc))), (r44, .inl (cI, (hz_R (gt + 1)), .inl (nf kc2))), (y4, .inl (cI, (hz_R gt), .inl (nf vc))), (r56, .inl (cI, (hz_R (gt + 1)), .inl (nf vc2))), (y5, .inl (cI, (hz_R gt), .inl (nf bo))), (r68, .inl (cI, (hz_R (gt + 1)), .inl (nf (cpz bo (fun _ => 0) (hz_R gt)))))] := hD
  refine W.widen (k := 5) (n := ((((hz_R (gt + 1)) + (hz_R (gt + 1))) + (hz_R (gt + 1))) + (hz_R (gt + 1))) + (hz_R (gt + 1))) (by omega) (by omega) ?_
  obtain ⟨bo2, ebo2⟩ : ∃ z, z = cpz bo (fun _ => 0) (hz_R gt) := ⟨_, rfl⟩
  rw [← ebo2] at hP hD
  have hP : va_P (dC, dI) classes [(tr, .inr (1, [.int (nI nT), .ref r20, .ref r32, .ref r44, .ref r56, .ref y5])), (y1, .inl (cI, (hz_R gt), .inl (nf fi))), (r20, .inl (cI, (hz_R (gt + 1)), .inl (nf fi2))), (y2, .inl (cI, (hz_R gt), .inl (nf la))), (r32, .inl (cI, (hz_R (gt + 1)), .inl (nf la2))), (y3, .inl (cI, (hz_R gt), .inl (nf kc))), (r44, .inl (cI, (hz_R (gt + 1)), .inl (nf kc2))), (y4, .inl (cI, (hz_R gt), .inl (nf vc))), (r56, .inl (cI, (hz_R (gt + 1)), .inl (nf vc2))), (y5, .inl (cI, (hz_R gt), .inl (nf bo))), (r68, .inl (cI, (hz_R (gt + 1)), .inl (nf bo2)))] H := hP
  have hD : va_D A [(tr, .inr (1, [.int (nI nT), .ref r20, .ref r32, .ref r44, .ref r56, .ref y5])), (y1, .inl (cI, (hz_R gt), .inl (nf fi))), (r20, .inl (cI, (hz_R (gt + 1)), .inl (nf fi2))), (y2, .inl (cI, (hz_R gt), .inl (nf la))), (r32, .inl (cI, (hz_R (gt + 1)), .inl (nf la2))), (y3, .inl (cI, (hz_R gt), .inl (nf kc))), (r44, .inl (cI, (hz_R (gt + 1)), .inl (nf kc2))), (y4, .inl (cI, (hz_R gt), .inl (nf vc))), (r56, .inl (cI, (hz_R (gt + 1)), .inl (nf vc2))), (y5, .inl (cI, (hz_R gt), .inl (nf bo))), (r68, .inl (cI, (hz_R (gt + 1)), .inl (nf bo2)))] := hD
  refine va_put (D := (dC, dI)) (ci := 1) (v := .ref r68) (ty := .array .int) (C := R_T) (T := T_T) (N := 6) hx hb hw in_T ty_T tyok_T nn_T hown hK hP hD hS 0 rfl rfl 5 (by decide) (hw _ m_32) (fun _ h9 => h9) rfl (by decide +kernel) rfl rfl (Nat.le_of_ble_eq_true rfl) d_T_grow_71 (fun H locs hP hD hS => ?_)
  have hP : va_P (dC, dI) classes [(tr, .inr (1, [.int (nI nT), .ref r20, .ref r32, .ref r44, .ref r56, .ref r68])), (y1, .inl (cI, (hz_R gt), .inl (nf fi))), (r20, .inl (cI, (hz_R (gt + 1)), .inl (nf fi2))), (y2, .inl (cI, (hz_R gt), .inl (nf la))), (r32, .inl (cI, (hz_R (gt + 1)), .inl (nf la2))), (y3, .inl (cI, (hz_R gt), .inl (nf kc))), (r44, .inl (cI, (hz_R (gt + 1)), .inl (nf kc2))), (y4, .inl (cI, (hz_R gt), .inl (nf vc))), (r56, .inl (cI, (hz_R (gt + 1)), .inl (nf vc2))), (y5, .inl (cI, (hz_R gt), .inl (nf bo))), (r68, .inl (cI, (hz_R (gt + 1)), .inl (nf bo2)))] H := hP
  have hD : va_D A [(tr, .inr (1, [.int (nI nT), .ref r20, .ref r32, .ref r44, .ref r56, .ref r68])), (y1, .inl (cI, (hz_R gt), .inl (nf fi))), (r20, .inl (cI, (hz_R (gt + 1)), .inl (nf fi2))), (y2, .inl (cI, (hz_R gt), .inl (nf la))), (r32, .inl (cI, (hz_R (gt + 1)), .inl (nf la2))), (y3, .inl (cI, (hz_R gt), .inl (nf kc))), (r44, .inl (cI, (hz_R (gt + 1)), .inl (nf kc2))), (y4, .inl (cI, (hz_R gt), .inl (nf vc))), (r56, .inl (cI, (hz_R (gt + 1)), .inl (nf vc2))), (y5, .inl (cI, (hz_R gt), .inl (nf bo))), (r68, .inl (cI, (hz_R (gt + 1)), .inl (nf bo2)))] := hD
  refine W.widen (k := 5) (n := 5 * hz_R (gt + 1)) (by omega) (by omega) ?_
  have hpost : (∀ i, i < hz_R gt → fi2 i = fi i ∧ la2 i = la i ∧ kc2 i = kc i ∧ vc2 i = vc i ∧ bo2 i = bo i) := fun i h => ⟨by rw [efi2, cpz_in h], by rw [ela2, cpz_in h], by rw [ekc2, cpz_in h], by rw [evc2, cpz_in h], by rw [ebo2, cpz_in h]⟩
  exact hret (r20, r32, r44, r56, r68, fi2, la2, kc2, vc2, bo2) _ _ 74 ls hpost (fz_subP hP [0, 2, 4, 6, 8, 10] rfl) (hD.sub [0, 2, 4, 6, 8, 10] (by decide) rfl) hS d_T_grow_74
set_option maxHeartbeats 4000000 in
set_option maxRecDepth 100000 in
/-- TableRows.open -/
theorem c_open (l : Launch) (dC : Nat → ClassId) (dI : Nat → Nat → Nat) (cI cL cB : ClassId) (tr : Nat) (y1 : Nat) (y2 : Nat) (y3 : Nat) (y4 : Nat) (y5 : Nat) (nT : Nat) (gt : Nat) (gt2 : Nat) (fi : Nat → Nat) (la : Nat → Nat) (kc : Nat → Nat) (vc : Nat → Nat) (bo : Nat → Nat) (hn3 : nT < 30000) (hg : gt ≤ 11) (hn : nT < hz_R gt) (hg2 : (nT + 1 < hz_R gt ∧ gt2 = gt) ∨ (hz_R gt ≤ nT + 1 ∧ gt2 = gt + 1)) : StdI l y_T_open (wd y_T_open b_T_open 1 (some .int)) 3 71 (5 * (gt2 - gt)) (Rs gt2 - Rs gt) (dC, dI) classes (tyK cI cL cB) [.ref tr] [(tr, .inr (1, [.int (nI nT), .ref y1, .ref y2, .ref y3, .ref y4, .ref y5])), (y1, .inl (cI, hz_R gt, .inl (nf fi))), (y2, .inl (cI, hz_R gt, .inl (nf la))), (y3, .inl (cI, hz_R gt, .inl (nf kc))), (y4, .inl (cI, hz_R gt, .inl (nf vc))), (y5, .inl (cI, hz_R gt, .inl (nf bo)))] (fun (r : Int32) (u : Nat × Nat × Nat × Nat × Nat × (Nat → Nat) × (Nat → Nat) × (Nat → Nat) × (Nat → Nat) × (Nat → Nat)) => r = nI (nT + 1) ∧ (∀ i, i ≤ nT → u.2.2.2.2.2.1 i = fi i ∧ u.2.2.2.2.2.2.1 i = la i ∧ u.2.2.2.2.2.2.2.1 i = kc i ∧ u.2.2.2.2.2.2.2.2.1 i = vc i ∧ u.2.2.2.2.2.2.2.2.2 i = bo i) ∧ u.2.2.2.2.2.1 (nT + 1) = 0 ∧ u.2.2.2.2.2.2.1 (nT + 1) = 0 ∧ u.2.2.2.2.2.2.2.1 (nT + 1) = 0 ∧ u.2.2.2.2.2.2.2.2.1 (nT + 1) = 0 ∧ u.2.2.2.2.2.2.2.2.2 (nT + 1) = 0) (fun (u : Nat × Nat × Nat × Nat × Nat × (Nat → Nat) × (Nat → Nat) × (Nat → Nat) × (Nat → Nat) × (Nat → Nat)) => [(tr, .inr (1, [.int (nI (nT + 1)), .ref u.1, .ref u.2.1, .ref u.2.2.1, .ref u.2.2.2.1, .ref u.2.2.2.2.1])), (u.1, .inl (cI, hz_R gt2, .inl (nf u.2.2.2.2.2.1))), (u.2.1, .inl (cI, hz_R gt2, .inl (nf u.2.2.2.2.2.2.1))), (u.2.2.1, .inl (cI, hz_R gt2, .inl (nf u.2.2.2.2.2.2.2.1))), (u.2.2.2.1, .inl (cI, hz_R gt2, .inl (nf u.2.2.2.2.2.2.2.2.1))), (u.2.2.2.2.1, .inl (cI, hz_R gt2, .inl (nf u.2.2.2.2.2.2.2.2.2)))]) := by
  have hg1 := hz_Rgen gt hg
  have hg9 : gt2 ≤ 11 := by
    rcases Nat.lt_or_ge gt 11 with q | q
    · rcases hg2 with z | z <;> omega
    · have e5 : gt = 11 := by omega
      have e6 : hz_R 11 = 30001 := rfl
      rw [e5, e6] at hg2; omega
  have hg8 := hz_Rgen gt2 hg9
  have hL2 : nT + 1 < hz_R gt2 := by
    rcases hg2 with z | z
    · rw [z.2]; exact z.1
    · rcases Nat.lt_or_ge gt 11 with q | q
      · have := (hz_Rgrow gt q).2; rw [z.2]; omega
      · omega
  refine StdI.mk (cc := b_T_open) (maxL := 1) (by decide) rfl (Nat.le_of_ble_eq_true rfl) ?_
  intro p e s m below meth c A Z ls hx hb hml hown hts hin hP hK hD hA hS hret hl
  have hown : s.vm.findClass R_T = some m.cls := hown
  have hw : ∀ x ∈ WALL, x.before _ s = true := fun x h => hts x (List.mem_cons_of_mem _ h)
  have hl : lv_has ls 1 [(0, .ref tr)] := hl
  have join_18 : ∀ (x1 : Nat) (x2 : Nat) (x3 : Nat) (x4 : Nat) (x5 : Nat) (fi1 : Nat → Nat) (la1 : Nat → Nat) (kc1 : Nat → Nat) (vc1 : Nat → Nat) (bo1 : Nat → Nat), (∀ i, i ≤ nT → fi1 i = fi i ∧ la1 i = la i ∧ kc1 i = kc i ∧ vc1 i = vc i ∧ bo1 i = bo i) → ∀ (H : Heap) (locs : List Loc), va_P (dC, dI) classes [(tr, .inr (1, [.int (nI nT), .ref x1, .ref x2, .ref x3, .ref x4, .ref x5])), (x1, .inl (cI, hz_R gt2, .inl (nf fi1))), (x2, .inl (cI, hz_R gt2, .inl (nf la1))), (x3, .inl (cI, hz_R gt2, .inl (nf kc1))), (x4, .inl (cI, hz_R gt2, .inl (nf vc1))), (x5, .inl (cI, hz_R gt2, .inl (nf bo1)))] H → va_D A [(tr, .inr (1, [.int (nI nT), .ref x1, .ref x2, .ref x3, .ref x4, .ref x5])), (x1, .inl (cI, hz_R gt2, .inl (nf fi1))), (x2, .inl (cI, hz_R gt2, .inl (nf la1))), (x3, .inl (cI, hz_R gt2, .inl (nf kc1))), (x4, .inl (cI, hz_R gt2, .inl (nf vc1))), (x5, .inl (cI, hz_R gt2, .inl (nf bo1)))] → va_S A s.heap H locs → ∀ (ls : Array Slot), lv_has ls 1 [(0, .ref tr)] → W p l e { frames := 3, cells := (5 * (gt2 - gt)), slots := (Rs gt2 - Rs gt), locals := 71 } s m [.ref tr].toArray below meth c H locs (5 * (gt2 - gt)) (Rs gt2 - Rs gt) Z (F0 m 18 ls []) := by
    intro x1 x2 x3 x4 x5 fi1 la1 kc1 vc1 bo1 hA1 H locs hP hD hS ls hl
    refine lv_aload_n hx hb d_T_open_18 rfl (lv_at hl 0 rfl) ?_
    refine lv_dup hx hb d_T_open_19 rfl ?_
    refine va_get (D := (dC, dI)) (ci := 1) (v := .int (nI nT)) (C := R_T) (T := T_T) (N := 6) hx hb hw in_T hown hK hP 0 rfl rfl 0 (by decide) (hw _ m_22) (fun _ h9 => h9) rfl d_T_open_20 ?_
    refine lv_iconst (v := nI 1) hx hb d_T_open_23 (by decide) ?_
    refine lv_iadd hx hb d_T_open_24 ?_
    refine fz_eqi (y := nI (nT + 1)) (nI_add nT 1) ?_
    refine va_put (D := (dC, dI)) (ci := 1) (v := .int (nI (nT + 1))) (ty := .int) (C := R_T) (T := T_T) (N := 6) hx hb hw in_T ty_T tyok_T nn_T hown hK hP hD hS 0 rfl rfl 0 (by decide) (hw _ m_22) (fun _ h9 => h9) rfl (by decide +kernel) rfl rfl (Nat.le_of_ble_eq_true rfl) d_T_open_25 (fun H locs hP hD hS => ?_)
    have hP : va_P (dC, dI) classes [(tr, .inr (1, [.int (nI (nT + 1)), .ref x1, .ref x2, .ref x3, .ref x4, .ref x5])), (x1, .inl (cI, hz_R gt2, .inl (nf fi1))), (x2, .inl (cI, hz_R gt2, .inl (nf la1))), (x3, .inl (cI, hz_R gt2, .inl (nf kc1))), (x4, .inl (cI, hz_R gt2, .inl (nf vc1))), (x5, .inl (cI, hz_R gt2, .inl (nf bo1)))] H := hP
    have hD : va_D A [(tr, .inr (1, [.int (nI (nT + 1)), .ref x1, .ref x2, .ref x3, .ref x4, .ref x5])), (x1, .inl (cI, hz_R gt2, .inl (nf fi1))), (x2, .inl (cI, hz_R gt2, .inl (nf la1))), (x3, .inl (cI, hz_R gt2, .inl (nf kc1))), (x4, .inl (cI, hz_R gt2, .inl (nf vc1))), (x5, .inl (cI, hz_R gt2, .inl (nf bo1)))] := hD
    refine lv_aload_n hx hb d_T_open_28 rfl (lv_at hl 0 rfl) ?_
    refine va_get (D := (dC, dI)) (ci := 1) (v := .ref x1) (C := R_T) (T := T_T) (N := 6) hx hb hw in_T hown hK hP 0 rfl rfl 1 (by decide) (hw _ m_24) (fun _ h9 => h9) rfl d_T_open_29 ?_
    refine lv_aload_n hx hb d_T_open_32 rfl (lv_at hl 0 rfl) ?_
    refine va_get (D := (dC, dI)) (ci := 1) (v := .int (nI (nT + 1))) (C := R_T) (T := T_T) (N := 6) hx hb hw in_T hown hK hP 0 rfl rfl 0 (by decide) (hw _ m_22) (fun _ h9 => h9) rfl d_T_open_33 ?_
    refine lv_iconst (v := nI 0) hx hb d_T_open_36 (by decide) ?_
    refine fz_iast hx hb hK hP hD hS 1 0 rfl rfl (j := nT + 1) (by omega) (by omega) d_T_open_37 (fun H locs hP hD hS => ?_)
    have hP : va_P (dC, dI) classes [(tr, .inr (1, [.int (nI (nT + 1)), .ref x1, .ref x2, .ref x3, .ref x4, .ref x5])), (x1, .inl (cI, hz_R gt2, .inl (nf (va_up fi1 (nT + 1) 0)))), (x2, .inl (cI, hz_R gt2, .inl (nf la1))), (x3, .inl (cI, hz_R gt2, .inl (nf kc1))), (x4, .inl (cI, hz_R gt2, .inl (nf vc1))), (x5, .inl (cI, hz_R gt2, .inl (nf bo1)))] H := hP
    have hD : va_D A [(tr, .inr (1, [.int (nI (nT + 1)), .ref x1, .ref x2, .ref x3, .ref x4, .ref x5])), (x1, .inl (cI, hz_R gt2, .inl (nf (va_up fi1 (nT + 1) 0)))), (x2, .inl (cI, hz_R gt2, .inl (nf la1))), (x3, .inl (cI, hz_R gt2, .inl (nf kc1))), (x4, .inl (cI, hz_R gt2, .inl (nf vc1))), (x5, .inl (cI, hz_R gt2, .inl (nf bo1)))] := hD
    refine lv_aload_n hx hb d_T_open_38 rfl (lv_at hl 0 rfl) ?_
    refine va_get (D := (dC, dI)) (ci := 1) (v := .ref x2) (C := R_T) (T := T_T) (N := 6) hx hb hw in_T hown hK hP 0 rfl rfl 2 (by decide) (hw _ m_26) (fun _ h9 => h9) rfl d_T_open_39 ?_
    refine lv_aload_n hx hb d_T_open_42 rfl (lv_at hl 0 rfl) ?_
    refine va_get (D := (dC, dI)) (ci := 1) (v := .int (nI (nT + 1))) (C := R_T) (T := T_T) (N := 6) hx hb hw in_T hown hK hP 0 rfl rfl 0 (by decide) (hw _ m_22) (fun _ h9 => h9) rfl d_T_open_43 ?_
    refine lv_iconst (v := nI 0) hx hb d_T_open_46 (by decide) ?_
    refine fz_iast hx hb hK hP hD hS 2 0 rfl rfl (j := nT + 1) (by omega) (by omega) d_T_open_47 (fun H locs hP hD hS => ?_)
    have hP : va_P (dC, dI) classes [(tr, .inr (1, [.int (nI (nT + 1)), .ref x1, .ref x2, .ref x3, .ref x4, .ref x5])), (x1, .inl (cI, hz_R gt2, .inl (nf (va_up fi1 (nT + 1) 0)))), (x2, .inl (cI, hz_R gt2, .inl (nf (va_up la1 (nT + 1) 0)))), (x3, .inl (cI, hz_R gt2, .inl (nf kc1))), (x4, .inl (cI, hz_R gt2, .inl (nf vc1))), (x5, .inl (cI, hz_R gt2, .inl (nf bo1)))] H := hP
    have hD : va_D A [(tr, .inr (1, [.int (nI (nT + 1)), .ref x1, .ref x2, .ref x3, .ref x4, .ref x5])), (x1, .inl (cI, hz_R gt2, .inl (nf (va_up fi1 (nT + 1) 0)))), (x2, .inl (cI, hz_R gt2, .inl (nf (va_up la1 (nT + 1) 0)))), (x3, .inl (cI, hz_R gt2, .inl (nf kc1))), (x4, .inl (cI, hz_R gt2, .inl (nf vc1))), (x5, .inl (cI, hz_R gt2, .inl (nf bo1)))] := hD
    refine lv_aload_n hx hb d_T_open_48 rfl (lv_at hl 0 rfl) ?_
    refine va_get (D := (dC, dI)) (ci := 1) (v := .ref x3) (C := R_T) (T := T_T) (N := 6) hx hb hw in_T hown hK hP 0 rfl rfl 3 (by decide) (hw _ m_28) (fun _ h9 => h9) rfl d_T_open_49 ?_
    refine lv_aload_n hx hb d_T_open_52 rfl (lv_at hl 0 rfl) ?_
    refine va_get (D := (dC, dI)) (ci := 1) (v := .int (nI (nT + 1))) (C := R_T) (T := T_T) (N := 6) hx hb hw in_T hown hK hP 0 rfl rfl 0 (by decide) (hw _ m_22) (fun _ h9 => h9) rfl d_T_open_53 ?_
    refine lv_iconst (v := nI 0) hx hb d_T_open_56 (by decide) ?_
    refine fz_iast hx hb hK hP hD hS 3 0 rfl rfl (j := nT + 1) (by omega) (by omega) d_T_open_57 (fun H locs hP hD hS => ?_)
    have hP : va_P (dC, dI) classes [(tr, .inr (1, [.int (nI (nT + 1)), .ref x1, .ref x2, .ref x3, .ref x4, .ref x5])), (x1, .inl (cI, hz_R gt2, .inl (nf (va_up fi1 (nT + 1) 0)))), (x2, .inl (cI, hz_R gt2, .inl (nf (va_up la1 (nT + 1) 0)))), (x3, .inl (cI, hz_R gt2, .inl (nf (va_up kc1 (nT + 1) 0)))), (x4, .inl (cI, hz_R gt2, .inl (nf vc1))), (x5, .inl (cI, hz_R gt2, .inl (nf bo1)))] H := hP
    have hD : va_D A [(tr, .inr (1, [.int (nI (nT + 1)), .ref x1, .ref x2, .ref x3, .ref x4, .ref x5])), (x1, .inl (cI, hz_R gt2, .inl (nf (va_up fi1 (nT + 1) 0)))), (x2, .inl (cI, hz_R gt2, .inl (nf (va_up la1 (nT + 1) 0)))), (x3, .inl (cI, hz_R gt2, .inl (nf (va_up kc1 (nT + 1) 0)))), (x4, .inl (cI, hz_R gt2, .inl (nf vc1))), (x5, .inl (cI, hz_R gt2, .inl (nf bo1)))] := hD
    refine lv_aload_n hx hb d_T_open_58 rfl (lv_at hl 0 rfl) ?_
    refine va_get (D := (dC, dI)) (ci := 1) (v := .ref x4) (C := R_T) (T := T_T) (N := 6) hx hb hw in_T hown hK hP 0 rfl rfl 4 (by decide) (hw _ m_30) (fun _ h9 => h9) rfl d_T_open_59 ?_
    refine lv_aload_n hx hb d_T_open_62 rfl (lv_at hl 0 rfl) ?_
    refine va_get (D := (dC, dI)) (ci := 1) (v := .int (nI (nT + 1))) (C := R_T) (T := T_T) (N := 6) hx hb hw in_T hown hK hP 0 rfl rfl 0 (by decide) (hw _ m_22) (fun _ h9 => h9) rfl d_T_open_63 ?_
    refine lv_iconst (v := nI 0) hx hb d_T_open_66 (by decide) ?_
    refine fz_iast hx hb hK hP hD hS 4 0 rfl rfl (j := nT + 1) (by omega) (by omega) d_T_open_67 (fun H locs hP hD hS => ?_)
    have hP : va_P (dC, dI) classes [(tr, .inr (1, [.int (nI (nT + 1)), .ref x1, .ref x2, .ref x3, .ref x4, .ref x5])), (x1, .inl (cI, hz_R gt2, .inl (nf (va_up fi1 (nT + 1) 0)))), (x2, .inl (cI, hz_R gt2, .inl (nf (va_up la1 (nT + 1) 0)))), (x3, .inl (cI, hz_R gt2, .inl (nf (va_up kc1 (nT + 1) 0)))), (x4, .inl (cI, hz_R gt2, .inl (nf (va_up vc1 (nT + 1) 0)))), (x5, .inl (cI, hz_R gt2, .inl (nf bo1)))] H := hP
    have hD : va_D A [(tr, .inr (1, [.int (nI (nT + 1)), .ref x1, .ref x2, .ref x3, .ref x4, .ref x5])), (x1, .inl (cI, hz_R gt2, .inl (nf (va_up fi1 (nT + 1) 0)))), (x2, .inl (cI, hz_R gt2, .inl (nf (va_up la1 (nT + 1) 0)))), (x3, .inl (cI, hz_R gt2, .inl (nf (va_up kc1 (nT + 1) 0)))), (x4, .inl (cI, hz_R gt2, .inl (nf (va_up vc1 (nT + 1) 0)))), (x5, .inl (cI, hz_R gt2, .inl (nf bo1)))] := hD
    refine lv_aload_n hx hb d_T_open_68 rfl (lv_at hl 0 rfl) ?_
    refine va_get (D := (dC, dI)) (ci := 1) (v := .ref x5) (C := R_T) (T := T_T) (N := 6) hx hb hw in_T hown hK hP 0 rfl rfl 5 (by decide) (hw _ m_32) (fun _ h9 => h9) rfl d_T_open_69 ?_
    refine lv_aload_n hx hb d_T_open_72 rfl (lv_at hl 0 rfl) ?_
    refine va_get (D := (dC, dI)) (ci := 1) (v := .int (nI (nT + 1))) (C := R_T) (T := T_T) (N := 6) hx hb hw in_T hown hK hP 0 rfl rfl 0 (by decide) (hw _ m_22) (fun _ h9 => h9) rfl d_T_open_73 ?_
    refine lv_iconst (v := nI 0) hx hb d_T_open_76 (by decide) ?_
    refine fz_iast hx hb hK hP hD hS 5 0 rfl rfl (j := nT + 1) (by omega) (by omega) d_T_open_77 (fun H locs hP hD hS => ?_)
    have hP : va_P (dC, dI) classes [(tr, .inr (1, [.int (nI (nT + 1)), .ref x1, .ref x2, .ref x3, .ref x4, .ref x5])), (x1, .inl (cI, hz_R gt2, .inl (nf (va_up fi1 (nT + 1) 0)))), (x2, .inl (cI, hz_R gt2, .inl (nf (va_up la1 (nT + 1) 0)))), (x3, .inl (cI, hz_R gt2, .inl (nf (va_up kc1 (nT + 1) 0)))), (x4, .inl (cI, hz_R gt2, .inl (nf (va_up vc1 (nT + 1) 0)))), (x5, .inl (cI, hz_R gt2, .inl (nf (va_up bo1 (nT + 1) 0))))] H := hP
    have hD : va_D A [(tr, .inr (1, [.int (nI (nT + 1)), .ref x1, .ref x2, .ref x3, .ref x4, .ref x5])), (x1, .inl (cI, hz_R gt2, .inl (nf (va_up fi1 (nT + 1) 0)))), (x2, .inl (cI, hz_R gt2, .inl (nf (va_up la1 (nT + 1) 0)))), (x3, .inl (cI, hz_R gt2, .inl (nf (va_up kc1 (nT + 1) 0)))), (x4, .inl (cI, hz_R gt2, .inl (nf (va_up vc1 (nT + 1) 0)))), (x5, .inl (cI, hz_R gt2, .inl (nf (va_up bo1 (nT + 1) 0))))] := hD
    refine lv_aload_n hx hb d_T_open_78 rfl (lv_at hl 0 rfl) ?_
    refine va_get (D := (dC, dI)) (ci := 1) (v := .int (nI (nT + 1))) (C := R_T) (T := T_T) (N := 6) hx hb hw in_T hown hK hP 0 rfl rfl 0 (by decide) (hw _ m_22) (fun _ h9 => h9) rfl d_T_open_79 ?_
    have hpost : (nI (nT + 1)) = nI (nT + 1) ∧ (∀ i, i ≤ nT → (va_up fi1 (nT + 1) 0) i = fi i ∧ (va_up la1 (nT + 1) 0) i = la i ∧ (va_up kc1 (nT + 1) 0) i = kc i ∧ (va_up vc1 (nT + 1) 0) i = vc i ∧ (va_up bo1 (nT + 1) 0) i = bo i) ∧ (va_up fi1 (nT + 1) 0) (nT + 1) = 0 ∧ (va_up la1 (nT + 1) 0) (nT + 1) = 0 ∧ (va_up kc1 (nT + 1) 0) (nT + 1) = 0 ∧ (va_up vc1 (nT + 1) 0) (nT + 1) = 0 ∧ (va_up bo1 (nT + 1) 0) (nT + 1) = 0 := ⟨rfl, fun i hi => ⟨by rw [va_up_ne _ _ (by omega)]; exact (hA1 i hi).1, by rw [va_up_ne _ _ (by omega)]; exact (hA1 i hi).2.1, by rw [va_up_ne _ _ (by omega)]; exact (hA1 i hi).2.2.1, by rw [va_up_ne _ _ (by omega)]; exact (hA1 i hi).2.2.2.1, by rw [va_up_ne _ _ (by omega)]; exact (hA1 i hi).2.2.2.2⟩, va_up_self _ _ _, va_up_self _ _ _, va_up_self _ _ _, va_up_self _ _ _, va_up_self _ _ _⟩
    exact hret (nI (nT + 1)) (x1, x2, x3, x4, x5, va_up fi1 (nT + 1) 0, va_up la1 (nT + 1) 0, va_up kc1 (nT + 1) 0, va_up vc1 (nT + 1) 0, va_up bo1 (nT + 1) 0) _ _ 82 ls hpost hP hD hS d_T_open_82
  refine lv_aload_n hx hb d_T_open_0 rfl (lv_at hl 0 rfl) ?_
  refine va_get (D := (dC, dI)) (ci := 1) (v := .int (nI nT)) (C := R_T) (T := T_T) (N := 6) hx hb hw in_T hown hK hP 0 rfl rfl 0 (by decide) (hw _ m_22) (fun _ h9 => h9) rfl d_T_open_1 ?_
  refine lv_iconst (v := nI 1) hx hb d_T_open_4 (by decide) ?_
  refine lv_iadd hx hb d_T_open_5 ?_
  refine fz_eqi (y := nI (nT + 1)) (nI_add nT 1) ?_
  refine lv_aload_n hx hb d_T_open_6 rfl (lv_at hl 0 rfl) ?_
  refine va_get (D := (dC, dI)) (ci := 1) (v := .ref y1) (C := R_T) (T := T_T) (N := 6) hx hb hw in_T hown hK hP 0 rfl rfl 1 (by decide) (hw _ m_24) (fun _ h9 => h9) rfl d_T_open_7 ?_
  refine fz_alen hx hb hK hP 1 0 rfl rfl d_T_open_10 ?_
  refine lv_icmp_lt (tgt := 18) hx hb d_T_open_11 (by decide) (fun c11 => ?_) (fun c11 => ?_)
  · have c11 : nT + 1 < hz_R gt := by exact (nI_ltI (by omega) (by omega)).mp c11
    have eg : gt = gt2 := by rcases hg2 with q | q <;> omega
    rw [eg] at hP hD
    have hP : va_P (dC, dI) classes [(tr, .inr (1, [.int (nI nT), .ref y1, .ref y2, .ref y3, .ref y4, .ref y5])), (y1, .inl (cI, hz_R gt2, .inl (nf fi))), (y2, .inl (cI, hz_R gt2, .inl (nf la))), (y3, .inl (cI, hz_R gt2, .inl (nf kc))), (y4, .inl (cI, hz_R gt2, .inl (nf vc))), (y5, .inl (cI, hz_R gt2, .inl (nf bo)))] s.heap := hP
    have hD : va_D A [(tr, .inr (1, [.int (nI nT), .ref y1, .ref y2, .ref y3, .ref y4, .ref y5])), (y1, .inl (cI, hz_R gt2, .inl (nf fi))), (y2, .inl (cI, hz_R gt2, .inl (nf la))), (y3, .inl (cI, hz_R gt2, .inl (nf kc))), (y4, .inl (cI, hz_R gt2, .inl (nf vc))), (y5, .inl (cI, hz_R gt2, .inl (nf bo)))] := hD
    refine W.widen (k := 5 * (gt2 - gt)) (n := Rs gt2 - Rs gt) (by omega) (by omega) ?_
    exact join_18 y1 y2 y3 y4 y5 fi la kc vc bo (fun i _ => ⟨rfl, rfl, rfl, rfl, rfl⟩)  _ _ hP hD hS ls (lv_sub hl [0] rfl)
  · have c11 : ¬ nT + 1 < hz_R gt := fun h => c11 (by exact (nI_ltI (by omega) (by omega)).mpr h)
    have hg5 : gt < 11 := by rcases hg2 with z | z <;> omega
    refine lv_aload_n hx hb d_T_open_14 rfl (lv_at hl 0 rfl) ?_
    have eg9 : gt2 = gt + 1 := by rcases hg2 with z | z <;> omega
    have eg8 : Rs gt2 = Rs gt + 5 * hz_R (gt + 1) := by rw [eg9]; rfl
    refine StdV.callV (ci := 1) (q0 := 0) (wr := []) (c_Tgrow l dC dI cI cL cB tr y1 y2 y3 y4 y5 nT gt fi la kc vc bo hg5) ⟨hx, hb, hml, hown, hw⟩ (fz_cwV 0 hw m_107 m_104 m_106 ms_0 m_2 rfl rfl (by decide +kernel) ⟨Nat.le_of_ble_eq_true rfl, Nat.le_of_ble_eq_true rfl⟩) hK hP hD hS hA [0, 1, 2, 3, 4, 5] [] rfl rfl (by decide) (by decide) (by decide) rfl rfl rfl rfl hl.1 rfl (Nat.le_of_ble_eq_true rfl) d_T_open_15 ⟨(by (try dsimp only); omega), (by (try dsimp only); omega)⟩ (fun u15 H locs h15 hP hD hS => ?_)
    obtain ⟨z115, z215, z315, z415, z515, fi215, la215, kc215, vc215, bo215⟩ := u15
    try dsimp only at h15
    have hP : va_P (dC, dI) classes [(tr, .inr (1, [.int (nI nT), .ref z115, .ref z215, .ref z315, .ref z415, .ref z515])), (z115, .inl (cI, hz_R (gt + 1), .inl (nf fi215))), (z215, .inl (cI, hz_R (gt + 1), .inl (nf la215))), (z315, .inl (cI, hz_R (gt + 1), .inl (nf kc215))), (z415, .inl (cI, hz_R (gt + 1), .inl (nf vc215))), (z515, .inl (cI, hz_R (gt + 1), .inl (nf bo215)))] H := hP
    have hD : va_D A [(tr, .inr (1, [.int (nI nT), .ref z115, .ref z215, .ref z315, .ref z415, .ref z515])), (z115, .inl (cI, hz_R (gt + 1), .inl (nf fi215))), (z215, .inl (cI, hz_R (gt + 1), .inl (nf la215))), (z315, .inl (cI, hz_R (gt + 1), .inl (nf kc215))), (z415, .inl (cI, hz_R (gt + 1), .inl (nf vc215))), (z515, .inl (cI, hz_R (gt + 1), .inl (nf bo215)))] := hD
    refine W.widen (k := 5) (n := 5 * hz_R (gt + 1)) (by omega) (by omega) ?_
    have eg : gt + 1 = gt2 := by rcases hg2 with q | q <;> omega
    rw [eg] at hP hD
    have hP : va_P (dC, dI) classes [(tr, .inr (1, [.int (nI nT), .ref z115, .ref z215, .ref z315, .ref z415, .ref z515])), (z115, .inl (cI, hz_R gt2, .inl (nf fi215))), (z215, .inl (cI, hz_R gt2, .inl (nf la215))), (z315, .inl (cI, hz_R gt2, .inl (nf kc215))), (z415, .inl (cI, hz_R gt2, .inl (nf vc215))), (z515, .inl (cI, hz_R gt2, .inl (nf bo215)))] H := hP
    have hD : va_D A [(tr, .inr (1, [.int (nI nT), .ref z115, .ref z215, .ref z315, .ref z415, .ref z515])), (z115, .inl (cI, hz_R gt2, .inl (nf fi215))), (z215, .inl (cI, hz_R gt2, .inl (nf la215))), (z315, .inl (cI, hz_R gt2, .inl (nf kc215))), (z415, .inl (cI, hz_R gt2, .inl (nf vc215))), (z515, .inl (cI, hz_R gt2, .inl (nf bo215)))] := hD
    refine W.widen (k := 5 * (gt2 - gt)) (n := Rs gt2 - Rs gt) (by omega) (by omega) ?_
    exact join_18 z115 z215 z315 z415 z515 fi215 la215 kc215 vc215 bo215 (fun i hi => h15 i (by omega))  _ _ hP hD hS ls (lv_sub hl [0] rfl)
