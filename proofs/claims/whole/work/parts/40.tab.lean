set_option maxHeartbeats 4000000 in
set_option maxRecDepth 100000 in
/-- isKind -/
theorem c_isKind (l : Launch) (dC : Nat → ClassId) (dI : Nat → Nat → Nat) (cI cL cB : ClassId) (x : Int32)  : QryI l y_F_isKind (wd y_F_isKind b_F_isKind 1 (some .boolean)) 0 0 (dC, dI) classes (tyK cI cL cB) [.int x] [] (fun r : Int32 => ∃ b, b ≤ 1 ∧ r = nI b ∧ (b = 1 ↔ okV x)) := by
  refine QryZ.mk (cc := b_F_isKind) (maxL := 1) (by decide) rfl (Nat.le_of_ble_eq_true rfl) ?_
  intro p e s m below meth c Z ls hx hb hml hown hts hP hK hret hl
  have hP : va_P (dC, dI) classes [] s.heap := hP
  have hown : s.vm.findClass R_F = some m.cls := hown
  have hw : ∀ x ∈ WALL, x.before _ s = true := fun x h => hts x (List.mem_cons_of_mem _ h)
  have hl : lv_has ls 1 [(0, .int x)] := hl
  refine lv_iload_n hx hb d_F_isKind_0 rfl (lv_at hl 0 rfl) ?_
  refine lv_if_lt (tgt := 14) hx hb d_F_isKind_1 (by decide) (fun c1 => ?_) (fun c1 => ?_)
  · refine lv_iconst (v := nI 0) hx hb d_F_isKind_14 (by decide) ?_
    exact hret (nI 0) 15 ls (Or.inl rfl) ⟨0, by omega, rfl, fun h => absurd h (by omega), fun h => absurd h (okV_lt c1)⟩ d_F_isKind_15
  · refine lv_iload_n hx hb d_F_isKind_4 rfl (lv_at hl 0 rfl) ?_
    refine lv_bipush (v := nI 7) hx hb d_F_isKind_5 (by decide) ?_
    refine lv_icmp_gt (tgt := 14) hx hb d_F_isKind_7 (by decide) (fun c7 => ?_) (fun c7 => ?_)
    · refine lv_iconst (v := nI 0) hx hb d_F_isKind_14 (by decide) ?_
      exact hret (nI 0) 15 ls (Or.inl rfl) ⟨0, by omega, rfl, fun h => absurd h (by omega), fun h => absurd h (okV_gt c7)⟩ d_F_isKind_15
    · refine lv_iconst (v := nI 1) hx hb d_F_isKind_10 (by decide) ?_
      refine lv_goto (tgt := 15) hx hb d_F_isKind_11 (by decide) ?_
      exact hret (nI 1) 15 ls (Or.inr rfl) ⟨1, by omega, rfl, fun _ => okV_of c1 c7, fun _ => rfl⟩ d_F_isKind_15
set_option maxHeartbeats 4000000 in
set_option maxRecDepth 100000 in
/-- isKeyKind -/
theorem c_isKeyKind (l : Launch) (dC : Nat → ClassId) (dI : Nat → Nat → Nat) (cI cL cB : ClassId) (x : Int32)  : QryI l y_F_isKeyKind (wd y_F_isKeyKind b_F_isKeyKind 1 (some .boolean)) 1 20 (dC, dI) classes (tyK cI cL cB) [.int x] [] (fun r : Int32 => ∃ b, b ≤ 1 ∧ r = nI b ∧ (b = 1 ↔ okT 7 x)) := by
  refine QryZ.mk (cc := b_F_isKeyKind) (maxL := 1) (by decide) rfl (Nat.le_of_ble_eq_true rfl) ?_
  intro p e s m below meth c Z ls hx hb hml hown hts hP hK hret hl
  have hP : va_P (dC, dI) classes [] s.heap := hP
  have hown : s.vm.findClass R_F = some m.cls := hown
  have hw : ∀ x ∈ WALL, x.before _ s = true := fun x h => hts x (List.mem_cons_of_mem _ h)
  have hl : lv_has ls 1 [(0, .int x)] := hl
  refine lv_iload_n hx hb d_F_isKeyKind_0 rfl (lv_at hl 0 rfl) ?_
  refine lv_if_eq (tgt := 15) hx hb d_F_isKeyKind_1 (by decide) (fun c1 => ?_) (fun c1 => ?_)
  · refine lv_iconst (v := nI 0) hx hb d_F_isKeyKind_15 (by decide) ?_
    exact hret (nI 0) 16 ls (Or.inl rfl) ⟨0, by omega, rfl, fun h => absurd h (by omega), fun h => absurd h (by rw [c1]; rintro ⟨j, h1, h2, e⟩; exact nI_ne0 (by omega) (by omega) e.symm)⟩ d_F_isKeyKind_16
  · refine lv_iload_n hx hb d_F_isKeyKind_4 rfl (lv_at hl 0 rfl) ?_
    refine QryI.callS (c_isKind l dC dI cI cL cB x ) ⟨hx, hb, hml, hown, hw⟩ (fz_cwS 1 hw m_138 m_136 m_137 m_1 rfl rfl (by decide +kernel) ⟨Nat.le_of_ble_eq_true rfl, Nat.le_of_ble_eq_true rfl⟩) hK hP [] rfl rfl hl.1 rfl (Nat.le_of_ble_eq_true rfl) d_F_isKeyKind_5 ⟨(Nat.le_of_ble_eq_true rfl), (Nat.le_of_ble_eq_true rfl)⟩ (fun r5 h5 => ?_)
    obtain ⟨b5, hb5, e5, hok5⟩ := h5
    subst e5
    refine lv_if_eq (tgt := 15) hx hb d_F_isKeyKind_8 (by decide) (fun c8 => ?_) (fun c8 => ?_)
    · have c8 : b5 = 0 := (nI_eq (by omega) (by omega)).mp (c8.trans nI_0.symm)
      refine lv_iconst (v := nI 0) hx hb d_F_isKeyKind_15 (by decide) ?_
      exact hret (nI 0) 16 ls (Or.inl rfl) ⟨0, by omega, rfl, fun h => absurd h (by omega), fun h => absurd h (fun ⟨j, h1, h2, e⟩ => absurd (hok5.mpr ⟨j, h2, e⟩) (by omega))⟩ d_F_isKeyKind_16
    · have c8 : ¬ b5 = 0 := fun h => c8 (((nI_eq (by omega) (by omega)).mpr h).trans nI_0)
      refine lv_iconst (v := nI 1) hx hb d_F_isKeyKind_11 (by decide) ?_
      refine lv_goto (tgt := 16) hx hb d_F_isKeyKind_12 (by decide) ?_
      exact hret (nI 1) 16 ls (Or.inr rfl) ⟨1, by omega, rfl, fun _ => by obtain ⟨j, h2, e⟩ := hok5.mp (by omega); exact ⟨j, Nat.pos_of_ne_zero (fun z => c1 (by rw [e, z]; rfl)), h2, e⟩, fun _ => rfl⟩ d_F_isKeyKind_16
set_option maxHeartbeats 4000000 in
set_option maxRecDepth 100000 in
/-- whole -/
theorem c_whole (l : Launch) (dC : Nat → ClassId) (dI : Nat → Nat → Nat) (cI cL cB : ClassId) (x0 : Nat) (tr : Nat) (f : Nat) (y1 : Nat) (y2 : Nat) (y3 : Nat) (y4 : Nat) (y5 : Nat) (a1 : Nat) (a2 : Nat) (a3 : Nat) (a4 : Nat) (a5 : Nat) (a6 : Nat) (ck : Nat) (nT : Nat) (g : Nat) (gt : Nat) (cn : Int64) (a : AS) (fi : Nat → Nat) (la : Nat → Nat) (kc : Nat → Nat) (vc : Nat → Nat) (bo : Nat → Nat) (ow : Nat → Nat) (ky : Nat → Int64) (kd : Nat → Nat) (nu : Nat → Int64) (fo : Nat → Nat) (sn : Nat → Nat) (t : Nat) (k : Int64) (hCI : CI nT a g gt ow ky kd nu fo sn fi la kc vc bo) (ht2 : t ≤ nT) : QryI l y_F_whole (wd y_F_whole b_F_whole 4 (some .int)) 3 75 (dC, dI) classes (tyK cI cL cB) [.ref x0, .int (nI t), .long k] [(x0, .inr (0, [.ref tr, .ref f, .int (nI ck), .long cn])), (tr, .inr (1, [.int (nI nT), .ref y1, .ref y2, .ref y3, .ref y4, .ref y5])), (y1, .inl (cI, hz_R gt, .inl (nf fi))), (y2, .inl (cI, hz_R gt, .inl (nf la))), (y3, .inl (cI, hz_R gt, .inl (nf kc))), (y4, .inl (cI, hz_R gt, .inl (nf vc))), (y5, .inl (cI, hz_R gt, .inl (nf bo))), (f, .inr (2, [.int (nI (aN a)), .ref a1, .ref a2, .ref a3, .ref a4, .ref a5, .ref a6])), (a1, .inl (cI, hz_L g, .inl (nf ow))), (a2, .inl (cL, hz_L g, .inr (.inl ky))), (a3, .inl (cB, hz_L g, .inl (nf kd))), (a4, .inl (cL, hz_L g, .inr (.inl nu))), (a5, .inl (cI, hz_L g, .inl (nf fo))), (a6, .inl (cI, hz_M g, .inl (nf sn)))] (fun r : Int32 => r = nI (aF a (t * 8 + 3) k)) := by
  obtain ⟨hCS, hCT, hgt, hRT⟩ := id hCI
  have hAI := hCS.1
  have hnT := hCS.2.1
  have hg := hCS.2.2.1
  have hnL := hCS.2.2.2.1
  have hAg := hCS.2.2.2.2.1
  have hk8 := hCS.2.2.2.2.2.1
  have hT := hCS.2.2.2.2.2.2
  have hO := hCS.O
  have hU := hCS.U
  have hg1 := hz_gen g hg
  have hg2 := hz_Rgen gt hgt
  have hn4 := hAI.1
  refine QryI.mk (cc := b_F_whole) (maxL := 4) (by decide) rfl (Nat.le_of_ble_eq_true rfl) ?_
  intro p e s m below meth c Z ls hx hb hml hown hts hP hK hret hl
  have hP : va_P (dC, dI) classes [(x0, .inr (0, [.ref tr, .ref f, .int (nI ck), .long cn])), (tr, .inr (1, [.int (nI nT), .ref y1, .ref y2, .ref y3, .ref y4, .ref y5])), (y1, .inl (cI, hz_R gt, .inl (nf fi))), (y2, .inl (cI, hz_R gt, .inl (nf la))), (y3, .inl (cI, hz_R gt, .inl (nf kc))), (y4, .inl (cI, hz_R gt, .inl (nf vc))), (y5, .inl (cI, hz_R gt, .inl (nf bo))), (f, .inr (2, [.int (nI (aN a)), .ref a1, .ref a2, .ref a3, .ref a4, .ref a5, .ref a6])), (a1, .inl (cI, hz_L g, .inl (nf ow))), (a2, .inl (cL, hz_L g, .inr (.inl ky))), (a3, .inl (cB, hz_L g, .inl (nf kd))), (a4, .inl (cL, hz_L g, .inr (.inl nu))), (a5, .inl (cI, hz_L g, .inl (nf fo))), (a6, .inl (cI, hz_M g, .inl (nf sn)))] s.heap := hP
  have hown : s.vm.findClass R_F = some m.cls := hown
  have hw : ∀ x ∈ WALL, x.before _ s = true := fun x h => hts x (List.mem_cons_of_mem _ h)
  have hl : lv_has ls 4 [(0, .ref x0), (1, .int (nI t)), (2, .long k)] := hl
  refine lv_aload_n hx hb d_F_whole_0 rfl (lv_at hl 0 rfl) ?_
  refine va_get (D := (dC, dI)) (ci := 0) (v := .ref f) (C := R_F) (T := T_F) (N := 4) hx hb hw in_F hown hK hP 0 rfl rfl 1 (by decide) (hw _ m_84) (fun _ h9 => h9) rfl d_F_whole_1 ?_
  refine lv_iload_n hx hb d_F_whole_4 rfl (lv_at hl 1 rfl) ?_
  refine lv_iconst (v := nI 3) hx hb d_F_whole_5 (by decide) ?_
  refine lv_lload_n hx hb d_F_whole_6 rfl (lv_at hl 2 rfl) ?_
  refine QryI.callV (ci := 2) (q0 := 0) (c_find l dC dI cI cL cB f a1 a2 a3 a4 a5 a6 (aN a) (hz_L g) (hz_M g) (7 + 2 * g) (aN a) t 3 k ow sn ky (by omega) (by omega) rfl (by omega) (by omega) (by omega) (by omega) hO hU hT) ⟨hx, hb, hml, hown, hw⟩ (fz_cwV 3 hw m_147 m_144 m_145 m_146 m_3 rfl rfl (by decide +kernel) ⟨Nat.le_of_ble_eq_true rfl, Nat.le_of_ble_eq_true rfl⟩) hK hP [7, 8, 9, 13] rfl rfl rfl rfl rfl hl.1 rfl (Nat.le_of_ble_eq_true rfl) d_F_whole_7 ⟨(Nat.le_of_ble_eq_true rfl), (Nat.le_of_ble_eq_true rfl)⟩ (fun r7 h7 => ?_)
  rw [hCS.F] at h7
  subst h7
  exact hret (nI (aF a (t * 8 + 3) k)) 10 ls rfl d_F_whole_10
set_option maxHeartbeats 4000000 in
set_option maxRecDepth 100000 in
/-- twin -/
theorem c_twin (l : Launch) (dC : Nat → ClassId) (dI : Nat → Nat → Nat) (cI cL cB : ClassId) (x0 : Nat) (tr : Nat) (f : Nat) (y1 : Nat) (y2 : Nat) (y3 : Nat) (y4 : Nat) (y5 : Nat) (a1 : Nat) (a2 : Nat) (a3 : Nat) (a4 : Nat) (a5 : Nat) (a6 : Nat) (ck : Nat) (nT : Nat) (g : Nat) (gt : Nat) (cn : Int64) (a : AS) (fi : Nat → Nat) (la : Nat → Nat) (kc : Nat → Nat) (vc : Nat → Nat) (bo : Nat → Nat) (ow : Nat → Nat) (ky : Nat → Int64) (kd : Nat → Nat) (nu : Nat → Int64) (fo : Nat → Nat) (sn : Nat → Nat) (t : Nat) (i : Nat) (hCI : CI nT a g gt ow ky kd nu fo sn fi la kc vc bo) (ht2 : t ≤ nT) (hi : i ≤ aN a) : QryI l y_F_twin (wd y_F_twin b_F_twin 3 (some .int)) 3 75 (dC, dI) classes (tyK cI cL cB) [.ref x0, .int (nI t), .int (nI i)] [(x0, .inr (0, [.ref tr, .ref f, .int (nI ck), .long cn])), (tr, .inr (1, [.int (nI nT), .ref y1, .ref y2, .ref y3, .ref y4, .ref y5])), (y1, .inl (cI, hz_R gt, .inl (nf fi))), (y2, .inl (cI, hz_R gt, .inl (nf la))), (y3, .inl (cI, hz_R gt, .inl (nf kc))), (y4, .inl (cI, hz_R gt, .inl (nf vc))), (y5, .inl (cI, hz_R gt, .inl (nf bo))), (f, .inr (2, [.int (nI (aN a)), .ref a1, .ref a2, .ref a3, .ref a4, .ref a5, .ref a6])), (a1, .inl (cI, hz_L g, .inl (nf ow))), (a2, .inl (cL, hz_L g, .inr (.inl ky))), (a3, .inl (cB, hz_L g, .inl (nf kd))), (a4, .inl (cL, hz_L g, .inr (.inl nu))), (a5, .inl (cI, hz_L g, .inl (nf fo))), (a6, .inl (cI, hz_M g, .inl (nf sn)))] (fun r : Int32 => r = nI (aF a (t * 8 + aO a i % 8) (aK a i))) := by
  obtain ⟨hCS, hCT, hgt, hRT⟩ := id hCI
  have hAI := hCS.1
  have hnT := hCS.2.1
  have hg := hCS.2.2.1
  have hnL := hCS.2.2.2.1
  have hAg := hCS.2.2.2.2.1
  have hk8 := hCS.2.2.2.2.2.1
  have hT := hCS.2.2.2.2.2.2
  have hO := hCS.O
  have hU := hCS.U
  have hg1 := hz_gen g hg
  have hg2 := hz_Rgen gt hgt
  have hn4 := hAI.1
  refine QryI.mk (cc := b_F_twin) (maxL := 3) (by decide) rfl (Nat.le_of_ble_eq_true rfl) ?_
  intro p e s m below meth c Z ls hx hb hml hown hts hP hK hret hl
  have hP : va_P (dC, dI) classes [(x0, .inr (0, [.ref tr, .ref f, .int (nI ck), .long cn])), (tr, .inr (1, [.int (nI nT), .ref y1, .ref y2, .ref y3, .ref y4, .ref y5])), (y1, .inl (cI, hz_R gt, .inl (nf fi))), (y2, .inl (cI, hz_R gt, .inl (nf la))), (y3, .inl (cI, hz_R gt, .inl (nf kc))), (y4, .inl (cI, hz_R gt, .inl (nf vc))), (y5, .inl (cI, hz_R gt, .inl (nf bo))), (f, .inr (2, [.int (nI (aN a)), .ref a1, .ref a2, .ref a3, .ref a4, .ref a5, .ref a6])), (a1, .inl (cI, hz_L g, .inl (nf ow))), (a2, .inl (cL, hz_L g, .inr (.inl ky))), (a3, .inl (cB, hz_L g, .inl (nf kd))), (a4, .inl (cL, hz_L g, .inr (.inl nu))), (a5, .inl (cI, hz_L g, .inl (nf fo))), (a6, .inl (cI, hz_M g, .inl (nf sn)))] s.heap := hP
  have hown : s.vm.findClass R_F = some m.cls := hown
  have hw : ∀ x ∈ WALL, x.before _ s = true := fun x h => hts x (List.mem_cons_of_mem _ h)
  have hl : lv_has ls 3 [(0, .ref x0), (1, .int (nI t)), (2, .int (nI i))] := hl
  refine lv_aload_n hx hb d_F_twin_0 rfl (lv_at hl 0 rfl) ?_
  refine va_get (D := (dC, dI)) (ci := 0) (v := .ref f) (C := R_F) (T := T_F) (N := 4) hx hb hw in_F hown hK hP 0 rfl rfl 1 (by decide) (hw _ m_84) (fun _ h9 => h9) rfl d_F_twin_1 ?_
  refine lv_iload_n hx hb d_F_twin_4 rfl (lv_at hl 1 rfl) ?_
  refine lv_aload_n hx hb d_F_twin_5 rfl (lv_at hl 0 rfl) ?_
  refine va_get (D := (dC, dI)) (ci := 0) (v := .ref f) (C := R_F) (T := T_F) (N := 4) hx hb hw in_F hown hK hP 0 rfl rfl 1 (by decide) (hw _ m_84) (fun _ h9 => h9) rfl d_F_twin_6 ?_
  refine lv_iload_n hx hb d_F_twin_9 rfl (lv_at hl 2 rfl) ?_
  refine QryI.callV (ci := 2) (q0 := 0) (c_keyKind l dC dI cI cL cB f a1 a2 a3 a4 a5 a6 (aN a) (hz_L g) i ow (by omega) (by omega) (hO i hi)) ⟨hx, hb, hml, hown, hw⟩ (fz_cwV 1 hw m_207 m_204 m_205 m_206 m_3 rfl rfl (by decide +kernel) ⟨Nat.le_of_ble_eq_true rfl, Nat.le_of_ble_eq_true rfl⟩) hK hP [7, 8] rfl rfl rfl rfl rfl hl.1 rfl (Nat.le_of_ble_eq_true rfl) d_F_twin_10 ⟨(Nat.le_of_ble_eq_true rfl), (Nat.le_of_ble_eq_true rfl)⟩ (fun r10 h10 => ?_)
  rw [(hAg i hi).1] at h10
  subst h10
  refine lv_aload_n hx hb d_F_twin_13 rfl (lv_at hl 0 rfl) ?_
  refine va_get (D := (dC, dI)) (ci := 0) (v := .ref f) (C := R_F) (T := T_F) (N := 4) hx hb hw in_F hown hK hP 0 rfl rfl 1 (by decide) (hw _ m_84) (fun _ h9 => h9) rfl d_F_twin_14 ?_
  refine va_get (D := (dC, dI)) (ci := 2) (v := .ref a2) (C := R_S) (T := T_S) (N := 7) hx hb hw in_S hown hK hP 7 rfl rfl 2 (by decide) (hw _ m_58) (fun _ h9 => h9) rfl d_F_twin_17 ?_
  refine lv_iload_n hx hb d_F_twin_20 rfl (lv_at hl 2 rfl) ?_
  refine fz_lald hx hb hK hP 9 1 rfl rfl (j := i) (by omega) (by omega) d_F_twin_21 ?_
  refine QryI.callV (ci := 2) (q0 := 0) (c_find l dC dI cI cL cB f a1 a2 a3 a4 a5 a6 (aN a) (hz_L g) (hz_M g) (7 + 2 * g) (aN a) t (aO a i % 8) (ky i) ow sn ky (by omega) (by omega) rfl (by omega) (by omega) (by omega) (by omega) hO hU hT) ⟨hx, hb, hml, hown, hw⟩ (fz_cwV 3 hw m_147 m_144 m_145 m_146 m_3 rfl rfl (by decide +kernel) ⟨Nat.le_of_ble_eq_true rfl, Nat.le_of_ble_eq_true rfl⟩) hK hP [7, 8, 9, 13] rfl rfl rfl rfl rfl hl.1 rfl (Nat.le_of_ble_eq_true rfl) d_F_twin_22 ⟨(Nat.le_of_ble_eq_true rfl), (Nat.le_of_ble_eq_true rfl)⟩ (fun r22 h22 => ?_)
  rw [(hAg i hi).2.1] at h22
  rw [hCS.F] at h22
  subst h22
  exact hret (nI (aF a (t * 8 + aO a i % 8) (aK a i))) 25 ls rfl d_F_twin_25
set_option maxHeartbeats 4000000 in
set_option maxRecDepth 100000 in
/-- append -/
theorem c_append (l : Launch) (dC : Nat → ClassId) (dI : Nat → Nat → Nat) (cI cL cB : ClassId) (x0 : Nat) (tr : Nat) (f : Nat) (y1 : Nat) (y2 : Nat) (y3 : Nat) (y4 : Nat) (y5 : Nat) (a1 : Nat) (a2 : Nat) (a3 : Nat) (a4 : Nat) (a5 : Nat) (a6 : Nat) (ck : Nat) (nT : Nat) (R : Nat) (L : Nat) (cnt : Nat) (t : Nat) (i : Nat) (cn : Int64) (fi : Nat → Nat) (la : Nat → Nat) (kc : Nat → Nat) (fo : Nat → Nat) (hR : t < R) (hR2 : R < 2 ^ 20) (hL : L < 2 ^ 20) (hla : la t < L) : StdV l y_F_append (wd y_F_append b_F_append 4 none) 0 0 0 0 (dC, dI) classes (tyK cI cL cB) [.ref x0, .int (nI t), .int (nI i)] [(x0, .inr (0, [.ref tr, .ref f, .int (nI ck), .long cn])), (tr, .inr (1, [.int (nI nT), .ref y1, .ref y2, .ref y3, .ref y4, .ref y5])), (f, .inr (2, [.int (nI cnt), .ref a1, .ref a2, .ref a3, .ref a4, .ref a5, .ref a6])), (y1, .inl (cI, R, .inl (nf fi))), (y2, .inl (cI, R, .inl (nf la))), (y3, .inl (cI, R, .inl (nf kc))), (a5, .inl (cI, L, .inl (nf fo)))] (fun (u : (Nat → Nat) × (Nat → Nat)) => u.1 = (if la t = 0 then va_up fi t i else fi) ∧ u.2 = (if la t = 0 then fo else va_up fo (la t) i)) (fun (u : (Nat → Nat) × (Nat → Nat)) => [(x0, .inr (0, [.ref tr, .ref f, .int (nI ck), .long cn])), (tr, .inr (1, [.int (nI nT), .ref y1, .ref y2, .ref y3, .ref y4, .ref y5])), (f, .inr (2, [.int (nI cnt), .ref a1, .ref a2, .ref a3, .ref a4, .ref a5, .ref a6])), (y1, .inl (cI, R, .inl (nf u.1))), (y2, .inl (cI, R, .inl (nf (va_up la t i)))), (y3, .inl (cI, R, .inl (nf (va_up kc t (kc t + 1))))), (a5, .inl (cI, L, .inl (nf u.2)))]) := by
  refine StdV.mk (cc := b_F_append) (maxL := 4) (by decide) rfl (Nat.le_of_ble_eq_true rfl) ?_
  intro p e s m below meth c A Z ls hx hb hml hown hts hin hP hK hD hA hS hret hl
  have hown : s.vm.findClass R_F = some m.cls := hown
  have hw : ∀ x ∈ WALL, x.before _ s = true := fun x h => hts x (List.mem_cons_of_mem _ h)
  have hl : lv_has ls 4 [(0, .ref x0), (1, .int (nI t)), (2, .int (nI i))] := hl
  refine lv_aload_n hx hb d_F_append_0 rfl (lv_at hl 0 rfl) ?_
  refine va_get (D := (dC, dI)) (ci := 0) (v := .ref tr) (C := R_F) (T := T_F) (N := 4) hx hb hw in_F hown hK hP 0 rfl rfl 0 (by decide) (hw _ m_83) (fun _ h9 => h9) rfl d_F_append_1 ?_
  refine va_get (D := (dC, dI)) (ci := 1) (v := .ref y2) (C := R_T) (T := T_T) (N := 6) hx hb hw in_T hown hK hP 1 rfl rfl 2 (by decide) (hw _ m_27) (fun _ h9 => h9) rfl d_F_append_4 ?_
  refine lv_iload_n hx hb d_F_append_7 rfl (lv_at hl 1 rfl) ?_
  refine fz_iald hx hb hK hP 4 0 rfl rfl (j := t) (by omega) (by omega) d_F_append_8 ?_
  refine lv_istore_n (lv' := [(3, .int (nI (la t))), (0, .ref x0), (1, .int (nI t)), (2, .int (nI i))]) hx hb d_F_append_9 rfl hl (by decide) rfl (fun ls hl => ?_)
  refine lv_iload_n hx hb d_F_append_10 rfl (lv_at hl 0 rfl) ?_
  refine lv_if_ne (tgt := 27) hx hb d_F_append_11 (by decide) (fun c11 => ?_) (fun c11 => ?_)
  · have c11 : ¬ la t = 0 := fun h => c11 (((nI_eq (by omega) (by omega)).mpr h).trans nI_0)
    refine lv_aload_n hx hb d_F_append_27 rfl (lv_at hl 1 rfl) ?_
    refine va_get (D := (dC, dI)) (ci := 0) (v := .ref f) (C := R_F) (T := T_F) (N := 4) hx hb hw in_F hown hK hP 0 rfl rfl 1 (by decide) (hw _ m_84) (fun _ h9 => h9) rfl d_F_append_28 ?_
    refine va_get (D := (dC, dI)) (ci := 2) (v := .ref a5) (C := R_S) (T := T_S) (N := 7) hx hb hw in_S hown hK hP 2 rfl rfl 5 (by decide) (hw _ m_64) (fun _ h9 => h9) rfl d_F_append_31 ?_
    refine lv_iload_n hx hb d_F_append_34 rfl (lv_at hl 0 rfl) ?_
    refine lv_iload_n hx hb d_F_append_35 rfl (lv_at hl 3 rfl) ?_
    refine fz_iast hx hb hK hP hD hS 6 0 rfl rfl (j := la t) (by omega) (by omega) d_F_append_36 (fun H locs hP hD hS => ?_)
    have hP : va_P (dC, dI) classes [(x0, .inr (0, [.ref tr, .ref f, .int (nI ck), .long cn])), (tr, .inr (1, [.int (nI nT), .ref y1, .ref y2, .ref y3, .ref y4, .ref y5])), (f, .inr (2, [.int (nI cnt), .ref a1, .ref a2, .ref a3, .ref a4, .ref a5, .ref a6])), (y1, .inl (cI, R, .inl (nf fi))), (y2, .inl (cI, R, .inl (nf la))), (y3, .inl (cI, R, .inl (nf kc))), (a5, .inl (cI, L, .inl (nf (va_up fo (la t) i))))] H := hP
    have hD : va_D A [(x0, .inr (0, [.ref tr, .ref f, .int (nI ck), .long cn])), (tr, .inr (1, [.int (nI nT), .ref y1, .ref y2, .ref y3, .ref y4, .ref y5])), (f, .inr (2, [.int (nI cnt), .ref a1, .ref a2, .ref a3, .ref a4, .ref a5, .ref a6])), (y1, .inl (cI, R, .inl (nf fi))), (y2, .inl (cI, R, .inl (nf la))), (y3, .inl (cI, R, .inl (nf kc))), (a5, .inl (cI, L, .inl (nf (va_up fo (la t) i))))] := hD
    refine lv_aload_n hx hb d_F_append_37 rfl (lv_at hl 1 rfl) ?_
    refine va_get (D := (dC, dI)) (ci := 0) (v := .ref tr) (C := R_F) (T := T_F) (N := 4) hx hb hw in_F hown hK hP 0 rfl rfl 0 (by decide) (hw _ m_83) (fun _ h9 => h9) rfl d_F_append_38 ?_
    refine va_get (D := (dC, dI)) (ci := 1) (v := .ref y2) (C := R_T) (T := T_T) (N := 6) hx hb hw in_T hown hK hP 1 rfl rfl 2 (by decide) (hw _ m_27) (fun _ h9 => h9) rfl d_F_append_41 ?_
    refine lv_iload_n hx hb d_F_append_44 rfl (lv_at hl 2 rfl) ?_
    refine lv_iload_n hx hb d_F_append_45 rfl (lv_at hl 3 rfl) ?_
    refine fz_iast hx hb hK hP hD hS 4 0 rfl rfl (j := t) (by omega) (by omega) d_F_append_46 (fun H locs hP hD hS => ?_)
    have hP : va_P (dC, dI) classes [(x0, .inr (0, [.ref tr, .ref f, .int (nI ck), .long cn])), (tr, .inr (1, [.int (nI nT), .ref y1, .ref y2, .ref y3, .ref y4, .ref y5])), (f, .inr (2, [.int (nI cnt), .ref a1, .ref a2, .ref a3, .ref a4, .ref a5, .ref a6])), (y1, .inl (cI, R, .inl (nf fi))), (y2, .inl (cI, R, .inl (nf (va_up la t i)))), (y3, .inl (cI, R, .inl (nf kc))), (a5, .inl (cI, L, .inl (nf (va_up fo (la t) i))))] H := hP
    have hD : va_D A [(x0, .inr (0, [.ref tr, .ref f, .int (nI ck), .long cn])), (tr, .inr (1, [.int (nI nT), .ref y1, .ref y2, .ref y3, .ref y4, .ref y5])), (f, .inr (2, [.int (nI cnt), .ref a1, .ref a2, .ref a3, .ref a4, .ref a5, .ref a6])), (y1, .inl (cI, R, .inl (nf fi))), (y2, .inl (cI, R, .inl (nf (va_up la t i)))), (y3, .inl (cI, R, .inl (nf kc))), (a5, .inl (cI, L, .inl (nf (va_up fo (la t) i))))] := hD
    refine lv_aload_n hx hb d_F_append_47 rfl (lv_at hl 1 rfl) ?_
    refine va_get (D := (dC, dI)) (ci := 0) (v := .ref tr) (C := R_F) (T := T_F) (N := 4) hx hb hw in_F hown hK hP 0 rfl rfl 0 (by decide) (hw _ m_83) (fun _ h9 => h9) rfl d_F_append_48 ?_
    refine va_get (D := (dC, dI)) (ci := 1) (v := .ref y3) (C := R_T) (T := T_T) (N := 6) hx hb hw in_T hown hK hP 1 rfl rfl 3 (by decide) (hw _ m_29) (fun _ h9 => h9) rfl d_F_append_51 ?_
    refine lv_iload_n hx hb d_F_append_54 rfl (lv_at hl 2 rfl) ?_
    refine lv_dup2_11 hx hb d_F_append_55 rfl rfl ?_
    refine fz_iald hx hb hK hP 5 0 rfl rfl (j := t) (by omega) (by omega) d_F_append_56 ?_
    refine lv_iconst (v := nI 1) hx hb d_F_append_57 (by decide) ?_
    refine lv_iadd hx hb d_F_append_58 ?_
    refine fz_eqi (y := nI ((kc t) + 1)) (nI_add (kc t) 1) ?_
    refine fz_iast hx hb hK hP hD hS 5 0 rfl rfl (j := t) (by omega) (by omega) d_F_append_59 (fun H locs hP hD hS => ?_)
    have hP : va_P (dC, dI) classes [(x0, .inr (0, [.ref tr, .ref f, .int (nI ck), .long cn])), (tr, .inr (1, [.int (nI nT), .ref y1, .ref y2, .ref y3, .ref y4, .ref y5])), (f, .inr (2, [.int (nI cnt), .ref a1, .ref a2, .ref a3, .ref a4, .ref a5, .ref a6])), (y1, .inl (cI, R, .inl (nf fi))), (y2, .inl (cI, R, .inl (nf (va_up la t i)))), (y3, .inl (cI, R, .inl (nf (va_up kc t ((kc t) + 1))))), (a5, .inl (cI, L, .inl (nf (va_up fo (la t) i))))] H := hP
    have hD : va_D A [(x0, .inr (0, [.ref tr, .ref f, .int (nI ck), .long cn])), (tr, .inr (1, [.int (nI nT), .ref y1, .ref y2, .ref y3, .ref y4, .ref y5])), (f, .inr (2, [.int (nI cnt), .ref a1, .ref a2, .ref a3, .ref a4, .ref a5, .ref a6])), (y1, .inl (cI, R, .inl (nf fi))), (y2, .inl (cI, R, .inl (nf (va_up la t i)))), (y3, .inl (cI, R, .inl (nf (va_up kc t ((kc t) + 1))))), (a5, .inl (cI, L, .inl (nf (va_up fo (la t) i))))] := hD
    have hpost : fi = (if la t = 0 then va_up fi t i else fi) ∧ (va_up fo (la t) i) = (if la t = 0 then fo else va_up fo (la t) i) := ⟨(if_neg c11).symm, (if_neg c11).symm⟩
    exact hret (fi, va_up fo (la t) i) _ _ 60 ls hpost hP hD hS d_F_append_60
  · have c11 : la t = 0 := (nI_eq (by omega) (by omega)).mp (c11.trans nI_0.symm)
    refine lv_aload_n hx hb d_F_append_14 rfl (lv_at hl 1 rfl) ?_
    refine va_get (D := (dC, dI)) (ci := 0) (v := .ref tr) (C := R_F) (T := T_F) (N := 4) hx hb hw in_F hown hK hP 0 rfl rfl 0 (by decide) (hw _ m_83) (fun _ h9 => h9) rfl d_F_append_15 ?_
    refine va_get (D := (dC, dI)) (ci := 1) (v := .ref y1) (C := R_T) (T := T_T) (N := 6) hx hb hw in_T hown hK hP 1 rfl rfl 1 (by decide) (hw _ m_25) (fun _ h9 => h9) rfl d_F_append_18 ?_
    refine lv_iload_n hx hb d_F_append_21 rfl (lv_at hl 2 rfl) ?_
    refine lv_iload_n hx hb d_F_append_22 rfl (lv_at hl 3 rfl) ?_
    refine fz_iast hx hb hK hP hD hS 3 0 rfl rfl (j := t) (by omega) (by omega) d_F_append_23 (fun H locs hP hD hS => ?_)
    have hP : va_P (dC, dI) classes [(x0, .inr (0, [.ref tr, .ref f, .int (nI ck), .long cn])), (tr, .inr (1, [.int (nI nT), .ref y1, .ref y2, .ref y3, .ref y4, .ref y5])), (f, .inr (2, [.int (nI cnt), .ref a1, .ref a2, .ref a3, .ref a4, .ref a5, .ref a6])), (y1, .inl (cI, R, .inl (nf (va_up fi t i)))), (y2, .inl (cI, R, .inl (nf la))), (y3, .inl (cI, R, .inl (nf kc))), (a5, .inl (cI, L, .inl (nf fo)))] H := hP
    have hD : va_D A [(x0, .inr (0, [.ref tr, .ref f, .int (nI ck), .long cn])), (tr, .inr (1, [.int (nI nT), .ref y1, .ref y2, .ref y3, .ref y4, .ref y5])), (f, .inr (2, [.int (nI cnt), .ref a1, .ref a2, .ref a3, .ref a4, .ref a5, .ref a6])), (y1, .inl (cI, R, .inl (nf (va_up fi t i)))), (y2, .inl (cI, R, .inl (nf la))), (y3, .inl (cI, R, .inl (nf kc))), (a5, .inl (cI, L, .inl (nf fo)))] := hD
    refine lv_goto (tgt := 37) hx hb d_F_append_24 (by decide) ?_
    refine lv_aload_n hx hb d_F_append_37 rfl (lv_at hl 1 rfl) ?_
    refine va_get (D := (dC, dI)) (ci := 0) (v := .ref tr) (C := R_F) (T := T_F) (N := 4) hx hb hw in_F hown hK hP 0 rfl rfl 0 (by decide) (hw _ m_83) (fun _ h9 => h9) rfl d_F_append_38 ?_
    refine va_get (D := (dC, dI)) (ci := 1) (v := .ref y2) (C := R_T) (T := T_T) (N := 6) hx hb hw in_T hown hK hP 1 rfl rfl 2 (by decide) (hw _ m_27) (fun _ h9 => h9) rfl d_F_append_41 ?_
    refine lv_iload_n hx hb d_F_append_44 rfl (lv_at hl 2 rfl) ?_
    refine lv_iload_n hx hb d_F_append_45 rfl (lv_at hl 3 rfl) ?_
    refine fz_iast hx hb hK hP hD hS 4 0 rfl rfl (j := t) (by omega) (by omega) d_F_append_46 (fun H locs hP hD hS => ?_)
    have hP : va_P (dC, dI) classes [(x0, .inr (0, [.ref tr, .ref f, .int (nI ck), .long cn])), (tr, .inr (1, [.int (nI nT), .ref y1, .ref y2, .ref y3, .ref y4, .ref y5])), (f, .inr (2, [.int (nI cnt), .ref a1, .ref a2, .ref a3, .ref a4, .ref a5, .ref a6])), (y1, .inl (cI, R, .inl (nf (va_up fi t i)))), (y2, .inl (cI, R, .inl (nf (va_up la t i)))), (y3, .inl (cI, R, .inl (nf kc))), (a5, .inl (cI, L, .inl (nf fo)))] H := hP
    have hD : va_D A [(x0, .inr (0, [.ref tr, .ref f, .int (nI ck), .long cn])), (tr, .inr (1, [.int (nI nT), .ref y1, .ref y2, .ref y3, .ref y4, .ref y5])), (f, .inr (2, [.int (nI cnt), .ref a1, .ref a2, .ref a3, .ref a4, .ref a5, .ref a6])), (y1, .inl (cI, R, .inl (nf (va_up fi t i)))), (y2, .inl (cI, R, .inl (nf (va_up la t i)))), (y3, .inl (cI, R, .inl (nf kc))), (a5, .inl (cI, L, .inl (nf fo)))] := hD
    refine lv_aload_n hx hb d_F_append_47 rfl (lv_at hl 1 rfl) ?_
    refine va_get (D := (dC, dI)) (ci := 0) (v := .ref tr) (C := R_F) (T := T_F) (N := 4) hx hb hw in_F hown hK hP 0 rfl rfl 0 (by decide) (hw _ m_83) (fun _ h9 => h9) rfl d_F_append_48 ?_
    refine va_get (D := (dC, dI)) (ci := 1) (v := .ref y3) (C := R_T) (T := T_T) (N := 6) hx hb hw in_T hown hK hP 1 rfl rfl 3 (by decide) (hw _ m_29) (fun _ h9 => h9) rfl d_F_append_51 ?_
    refine lv_iload_n hx hb d_F_append_54 rfl (lv_at hl 2 rfl) ?_
    refine lv_dup2_11 hx hb d_F_append_55 rfl rfl ?_
    refine fz_iald hx hb hK hP 5 0 rfl rfl (j := t) (by omega) (by omega) d_F_append_56 ?_
    refine lv_iconst (v := nI 1) hx hb d_F_append_57 (by decide) ?_
    refine lv_iadd hx hb d_F_append_58 ?_
    refine fz_eqi (y := nI ((kc t) + 1)) (nI_add (kc t) 1) ?_
    refine fz_iast hx hb hK hP hD hS 5 0 rfl rfl (j := t) (by omega) (by omega) d_F_append_59 (fun H locs hP hD hS => ?_)
    have hP : va_P (dC, dI) classes [(x0, .inr (0, [.ref tr, .ref f, .int (nI ck), .long cn])), (tr, .inr (1, [.int (nI nT), .ref y1, .ref y2, .ref y3, .ref y4, .ref y5])), (f, .inr (2, [.int (nI cnt), .ref a1, .ref a2, .ref a3, .ref a4, .ref a5, .ref a6])), (y1, .inl (cI, R, .inl (nf (va_up fi t i)))), (y2, .inl (cI, R, .inl (nf (va_up la t i)))), (y3, .inl (cI, R, .inl (nf (va_up kc t ((kc t) + 1))))), (a5, .inl (cI, L, .inl (nf fo)))] H := hP
    have hD : va_D A [(x0, .inr (0, [.ref tr, .ref f, .int (nI ck), .long cn])), (tr, .inr (1, [.int (nI nT), .ref y1, .ref y2, .ref y3, .ref y4, .ref y5])), (f, .inr (2, [.int (nI cnt), .ref a1, .ref a2, .ref a3, .ref a4, .ref a5, .ref a6])), (y1, .inl (cI, R, .inl (nf (va_up fi t i)))), (y2, .inl (cI, R, .inl (nf (va_up la t i)))), (y3, .inl (cI, R, .inl (nf (va_up kc t ((kc t) + 1))))), (a5, .inl (cI, L, .inl (nf fo)))] := hD
    have hpost : (va_up fi t i) = (if la t = 0 then va_up fi t i else fi) ∧ fo = (if la t = 0 then fo else va_up fo (la t) i) := ⟨(if_pos c11).symm, (if_pos c11).symm⟩
    exact hret (va_up fi t i, fo) _ _ 60 ls hpost hP hD hS d_F_append_60
