set_option maxHeartbeats 4000000 in
set_option maxRecDepth 100000 in
/-- missingOf -/
theorem c_missingOf (l : Launch) (dC : Nat → ClassId) (dI : Nat → Nat → Nat) (cI cL cB : ClassId) (x0 : Nat) (tr : Nat) (f : Nat) (y1 : Nat) (y2 : Nat) (y3 : Nat) (y4 : Nat) (y5 : Nat) (a1 : Nat) (a2 : Nat) (a3 : Nat) (a4 : Nat) (a5 : Nat) (a6 : Nat) (ck : Nat) (nT : Nat) (g : Nat) (gt : Nat) (cn : Int64) (a : AS) (fi : Nat → Nat) (la : Nat → Nat) (kc : Nat → Nat) (vc : Nat → Nat) (bo : Nat → Nat) (ow : Nat → Nat) (ky : Nat → Int64) (kd : Nat → Nat) (nu : Nat → Int64) (fo : Nat → Nat) (sn : Nat → Nat) (to : Nat) (fr : Nat) (hCI : CI nT a g gt ow ky kd nu fo sn fi la kc vc bo) (ht2 : to ≤ nT) (hf1 : 1 ≤ fr) (hf2 : fr ≤ nT) : QryI l y_F_missingOf (wd y_F_missingOf b_F_missingOf 7 (some .int)) 4 97 (dC, dI) classes (tyK cI cL cB) [.ref x0, .int (nI to), .int (nI fr)] [(x0, .inr (0, [.ref tr, .ref f, .int (nI ck), .long cn])), (tr, .inr (1, [.int (nI nT), .ref y1, .ref y2, .ref y3, .ref y4, .ref y5])), (y1, .inl (cI, hz_R gt, .inl (nf fi))), (y2, .inl (cI, hz_R gt, .inl (nf la))), (y3, .inl (cI, hz_R gt, .inl (nf kc))), (y4, .inl (cI, hz_R gt, .inl (nf vc))), (y5, .inl (cI, hz_R gt, .inl (nf bo))), (f, .inr (2, [.int (nI (aN a)), .ref a1, .ref a2, .ref a3, .ref a4, .ref a5, .ref a6])), (a1, .inl (cI, hz_L g, .inl (nf ow))), (a2, .inl (cL, hz_L g, .inr (.inl ky))), (a3, .inl (cB, hz_L g, .inl (nf kd))), (a4, .inl (cL, hz_L g, .inr (.inl nu))), (a5, .inl (cI, hz_L g, .inl (nf fo))), (a6, .inl (cI, hz_M g, .inl (nf sn)))] (fun r : Int32 => r = nI (mcA a to fr (aN a))) := by
  obtain ⟨hCS, hCT, hgt, hRT⟩ := id hCI
  have hAI := hCS.1
  have hnT := hCS.2.1
  have hg := hCS.2.2.1
  have hnL := hCS.2.2.2.1
  have hAg := hCS.2.2.2.2.1
  have hk8 := hCS.2.2.2.2.2.1
  have hT := hCS.2.2.2.2.2.2
  have hO := hCS.O
  have hU := hCS.U
  have hg1 := hz_gen g hg
  have hg2 := hz_Rgen gt hgt
  have hn4 := hAI.1
  refine QryI.mk (cc := b_F_missingOf) (maxL := 7) (by decide) rfl (Nat.le_of_ble_eq_true rfl) ?_
  intro p e s m below meth c Z ls hx hb hml hown hts hP hK hret hl
  have hP : va_P (dC, dI) classes [(x0, .inr (0, [.ref tr, .ref f, .int (nI ck), .long cn])), (tr, .inr (1, [.int (nI nT), .ref y1, .ref y2, .ref y3, .ref y4, .ref y5])), (y1, .inl (cI, hz_R gt, .inl (nf fi))), (y2, .inl (cI, hz_R gt, .inl (nf la))), (y3, .inl (cI, hz_R gt, .inl (nf kc))), (y4, .inl (cI, hz_R gt, .inl (nf vc))), (y5, .inl (cI, hz_R gt, .inl (nf bo))), (f, .inr (2, [.int (nI (aN a)), .ref a1, .ref a2, .ref a3, .ref a4, .ref a5, .ref a6])), (a1, .inl (cI, hz_L g, .inl (nf ow))), (a2, .inl (cL, hz_L g, .inr (.inl ky))), (a3, .inl (cB, hz_L g, .inl (nf kd))), (a4, .inl (cL, hz_L g, .inr (.inl nu))), (a5, .inl (cI, hz_L g, .inl (nf fo))), (a6, .inl (cI, hz_M g, .inl (nf sn)))] s.heap := hP
  have hown : s.vm.findClass R_F = some m.cls := hown
  have hw : ∀ x ∈ WALL, x.before _ s = true := fun x h => hts x (List.mem_cons_of_mem _ h)
  have hl : lv_has ls 7 [(0, .ref x0), (1, .int (nI to)), (2, .int (nI fr))] := hl
  refine lv_iconst (v := nI 0) hx hb d_F_missingOf_0 (by decide) ?_
  refine lv_istore_n (lv' := [(3, .int (nI 0)), (0, .ref x0), (1, .int (nI to)), (2, .int (nI fr))]) hx hb d_F_missingOf_1 rfl hl (by decide) rfl (fun ls hl => ?_)
  refine lv_aload_n hx hb d_F_missingOf_2 rfl (lv_at hl 1 rfl) ?_
  refine va_get (D := (dC, dI)) (ci := 0) (v := .ref tr) (C := R_F) (T := T_F) (N := 4) hx hb hw in_F hown hK hP 0 rfl rfl 0 (by decide) (hw _ m_83) (fun _ h9 => h9) rfl d_F_missingOf_3 ?_
  refine va_get (D := (dC, dI)) (ci := 1) (v := .ref y1) (C := R_T) (T := T_T) (N := 6) hx hb hw in_T hown hK hP 1 rfl rfl 1 (by decide) (hw _ m_25) (fun _ h9 => h9) rfl d_F_missingOf_6 ?_
  refine lv_iload_n hx hb d_F_missingOf_9 rfl (lv_at hl 3 rfl) ?_
  refine fz_iald hx hb hK hP 2 0 rfl rfl (j := fr) (by omega) (by omega) d_F_missingOf_10 ?_
  refine lv_istore (lv' := [(4, .int (nI (fi fr))), (3, .int (nI 0)), (0, .ref x0), (1, .int (nI to)), (2, .int (nI fr))]) hx hb d_F_missingOf_11 hl (by decide) rfl (fun ls hl => ?_)
  refine lv_aload_n hx hb d_F_missingOf_13 rfl (lv_at hl 2 rfl) ?_
  refine va_get (D := (dC, dI)) (ci := 0) (v := .ref tr) (C := R_F) (T := T_F) (N := 4) hx hb hw in_F hown hK hP 0 rfl rfl 0 (by decide) (hw _ m_83) (fun _ h9 => h9) rfl d_F_missingOf_14 ?_
  refine va_get (D := (dC, dI)) (ci := 1) (v := .ref y3) (C := R_T) (T := T_T) (N := 6) hx hb hw in_T hown hK hP 1 rfl rfl 3 (by decide) (hw _ m_29) (fun _ h9 => h9) rfl d_F_missingOf_17 ?_
  refine lv_iload_n hx hb d_F_missingOf_20 rfl (lv_at hl 4 rfl) ?_
  refine fz_iald hx hb hK hP 4 0 rfl rfl (j := fr) (by omega) (by omega) d_F_missingOf_21 ?_
  refine lv_istore (lv' := [(5, .int (nI (kc fr))), (4, .int (nI (fi fr))), (3, .int (nI 0)), (0, .ref x0), (1, .int (nI to)), (2, .int (nI fr))]) hx hb d_F_missingOf_22 hl (by decide) rfl (fun ls hl => ?_)
  refine lv_iconst (v := nI 0) hx hb d_F_missingOf_24 (by decide) ?_
  refine lv_istore (lv' := [(6, .int (nI 0)), (5, .int (nI (kc fr))), (4, .int (nI (fi fr))), (3, .int (nI 0)), (0, .ref x0), (1, .int (nI to)), (2, .int (nI fr))]) hx hb d_F_missingOf_25 hl (by decide) rfl (fun ls hl => ?_)
  have loop_27 : ∀ (fuel : Nat) (fld : Nat) (sen : Nat) (cm : Nat) (q : Nat), ch_N (aO a) fr (aN a) q fld → q ≤ aN a → sen ≤ cQ a fr q → cm = mcA a to fr q → aN a - q < fuel → ∀ (ls : Array Slot), lv_has ls 7 [(0, .ref x0), (1, .int (nI to)), (2, .int (nI fr)), (3, .int (nI cm)), (4, .int (nI fld)), (5, .int (nI (kc fr))), (6, .int (nI sen))] → W p l e { frames := 4, cells := 0, slots := 0, locals := 97 } s m [.ref x0, .int (nI to), .int (nI fr)].toArray below meth c s.heap [] 0 0 Z (F0 m 27 ls []) := by
    intro fuel
    induction fuel with
    | zero => intro fld sen cm q hfl hqn hse hcm hfuel; exact absurd hfuel (Nat.not_lt_zero _)
    | succ fuel ih =>
      intro fld sen cm q hfl hqn hse hcm hfuel ls hl
      have hfn := hfl.le
      have hkc := (hCT.2 fr hf1 hf2).2.2.1
      have hkn : kc fr ≤ aN a := by rw [hkc]; exact cnt_le _ _
      have hcq := cQ_le (t := fr) hqn
      have hml2 := mcA_le a to fr q
      refine lv_iload hx hb d_F_missingOf_27 (lv_at hl 6 rfl) ?_
      refine lv_iload hx hb d_F_missingOf_29 (lv_at hl 5 rfl) ?_
      refine lv_icmp_ge (tgt := 83) hx hb d_F_missingOf_31 (by decide) (fun c31 => ?_) (fun c31 => ?_)
      · have c31 : kc fr ≤ sen := by exact (nI_leI (by omega) (by omega)).mp c31
        refine lv_iload_n hx hb d_F_missingOf_83 rfl (lv_at hl 3 rfl) ?_
        have hf0 : fld = 0 := by
          by_cases z : fld = 0
          · exact z
          · have := cQ_next hfl z; omega
        have hsk := cpA_skip (a := a) (to := to) (fr := fr) (p := aN a) hqn (by
          rcases hfl with ⟨_, w⟩ | ⟨w, _⟩
          · exact w
          · omega)
        exact hret (nI cm) 84 ls (by rw [hsk.2, hcm]) d_F_missingOf_84
      · have c31 : ¬ kc fr ≤ sen := fun h => c31 (by exact (nI_leI (by omega) (by omega)).mpr h)
        refine lv_iload hx hb d_F_missingOf_34 (lv_at hl 4 rfl) ?_
        refine lv_if_eq (tgt := 83) hx hb d_F_missingOf_36 (by decide) (fun c36 => ?_) (fun c36 => ?_)
        · have c36 : fld = 0 := (nI_eq (by omega) (by omega)).mp (c36.trans nI_0.symm)
          refine lv_iload_n hx hb d_F_missingOf_83 rfl (lv_at hl 3 rfl) ?_
          have hf0 : fld = 0 := c36
          have hsk := cpA_skip (a := a) (to := to) (fr := fr) (p := aN a) hqn (by
            rcases hfl with ⟨_, w⟩ | ⟨w, _⟩
            · exact w
            · omega)
          exact hret (nI cm) 84 ls (by rw [hsk.2, hcm]) d_F_missingOf_84
        · have c36 : ¬ fld = 0 := fun h => c36 (((nI_eq (by omega) (by omega)).mpr h).trans nI_0)
          have hff := hfl.facts c36
          have hcn := cQ_next hfl c36
          have hsk := cpA_skip (a := a) (to := to) (fr := fr) (p := fld - 1) (q := q) (by omega) (by
            rcases hfl with ⟨w, _⟩ | ⟨_, _, _, w⟩
            · exact absurd w c36
            · exact fun m m1 m2 => w m m1 (by omega))
          have hstep : mcA a to fr fld = mcA a to fr q + (if (aO a fld / 8 = fr ∧ aD a fld ≠ 0) ∧ aF a (to * 8 + aO a fld % 8) (aK a fld) = 0 then 1 else 0) := by
            rw [← hsk.2]
            obtain ⟨z, ez⟩ : ∃ z, fld = z + 1 := ⟨fld - 1, by omega⟩
            rw [ez]; rfl
          have hkf := hk8 fld
          have hDf := (hAg fld hfn).2.2.1
          refine lv_aload_n hx hb d_F_missingOf_39 rfl (lv_at hl 0 rfl) ?_
          refine va_get (D := (dC, dI)) (ci := 0) (v := .ref f) (C := R_F) (T := T_F) (N := 4) hx hb hw in_F hown hK hP 0 rfl rfl 1 (by decide) (hw _ m_84) (fun _ h9 => h9) rfl d_F_missingOf_40 ?_
          refine va_get (D := (dC, dI)) (ci := 2) (v := .ref a3) (C := R_S) (T := T_S) (N := 7) hx hb hw in_S hown hK hP 7 rfl rfl 3 (by decide) (hw _ m_60) (fun _ h9 => h9) rfl d_F_missingOf_43 ?_
          refine lv_iload hx hb d_F_missingOf_46 (lv_at hl 4 rfl) ?_
          refine fz_bald hx hb hK hP 10 2 rfl rfl (j := fld) (by omega) (by omega) d_F_missingOf_48 ?_
          refine lv_if_eq (tgt := 65) hx hb d_F_missingOf_49 (by decide) (fun c49 => ?_) (fun c49 => ?_)
          · have c49 : kd fld = 0 := (nI_eq (by omega) (by omega)).mp (c49.trans nI_0.symm)
            refine lv_aload_n hx hb d_F_missingOf_65 rfl (lv_at hl 0 rfl) ?_
            refine va_get (D := (dC, dI)) (ci := 0) (v := .ref f) (C := R_F) (T := T_F) (N := 4) hx hb hw in_F hown hK hP 0 rfl rfl 1 (by decide) (hw _ m_84) (fun _ h9 => h9) rfl d_F_missingOf_66 ?_
            refine va_get (D := (dC, dI)) (ci := 2) (v := .ref a5) (C := R_S) (T := T_S) (N := 7) hx hb hw in_S hown hK hP 7 rfl rfl 5 (by decide) (hw _ m_64) (fun _ h9 => h9) rfl d_F_missingOf_69 ?_
            refine lv_iload hx hb d_F_missingOf_72 (lv_at hl 4 rfl) ?_
            refine fz_iald hx hb hK hP 12 0 rfl rfl (j := fld) (by omega) (by omega) d_F_missingOf_74 ?_
            refine lv_istore (lv' := [(4, .int (nI (fo fld))), (0, .ref x0), (1, .int (nI to)), (2, .int (nI fr)), (3, .int (nI cm)), (5, .int (nI (kc fr))), (6, .int (nI sen))]) hx hb d_F_missingOf_75 hl (by decide) rfl (fun ls hl => ?_)
            refine lv_iinc (v := nI (sen + 1)) (lv' := [(6, .int (nI (sen + 1))), (4, .int (nI (fo fld))), (0, .ref x0), (1, .int (nI to)), (2, .int (nI fr)), (3, .int (nI cm)), (5, .int (nI (kc fr)))]) hx hb d_F_missingOf_77 hl (k := 6) rfl (fz_inc sen) (by decide) rfl (fun ls hl => ?_)
            refine lv_goto (tgt := 27) hx hb d_F_missingOf_80 (by decide) ?_
            exact ih (fo fld) (sen + 1) cm fld (by have := hCT.1 fld (Nat.pos_of_ne_zero c36) hfn; rw [hff.2.2] at this; exact this) hfn (by omega) (by rw [hstep, if_neg (fun h => h.1.2 (by rw [← hDf]; exact c49)), hcm, Nat.add_zero]) (by omega) ls (lv_sub hl [2, 3, 4, 5, 1, 6, 0] rfl)
          · have c49 : ¬ kd fld = 0 := fun h => c49 (((nI_eq (by omega) (by omega)).mpr h).trans nI_0)
            refine lv_aload_n hx hb d_F_missingOf_52 rfl (lv_at hl 0 rfl) ?_
            refine lv_iload_n hx hb d_F_missingOf_53 rfl (lv_at hl 1 rfl) ?_
            refine lv_iload hx hb d_F_missingOf_54 (lv_at hl 4 rfl) ?_
            refine QryI.callV (ci := 0) (q0 := 0) (c_twin l dC dI cI cL cB x0 tr f y1 y2 y3 y4 y5 a1 a2 a3 a4 a5 a6 ck nT g gt cn a fi la kc vc bo ow ky kd nu fo sn to fld hCI (by omega) (by omega)) ⟨hx, hb, hml, hown, hw⟩ (fz_cwV 2 hw m_323 m_320 m_322 ms_17 m_1 rfl rfl (by decide +kernel) ⟨Nat.le_of_ble_eq_true rfl, Nat.le_of_ble_eq_true rfl⟩) hK hP [0, 1, 2, 3, 4, 5, 6, 7, 8, 9, 10, 11, 12, 13] rfl rfl rfl rfl rfl hl.1 rfl (Nat.le_of_ble_eq_true rfl) d_F_missingOf_56 ⟨(Nat.le_of_ble_eq_true rfl), (Nat.le_of_ble_eq_true rfl)⟩ (fun r56 h56 => ?_)
            subst h56
            have hfl9 := aF_le a (to * 8 + aO a fld % 8) (aK a fld)
            refine lv_if_ne (tgt := 65) hx hb d_F_missingOf_59 (by decide) (fun c59 => ?_) (fun c59 => ?_)
            · have c59 : ¬ aF a (to * 8 + aO a fld % 8) (aK a fld) = 0 := fun h => c59 (((nI_eq (by omega) (by omega)).mpr h).trans nI_0)
              refine lv_aload_n hx hb d_F_missingOf_65 rfl (lv_at hl 0 rfl) ?_
              refine va_get (D := (dC, dI)) (ci := 0) (v := .ref f) (C := R_F) (T := T_F) (N := 4) hx hb hw in_F hown hK hP 0 rfl rfl 1 (by decide) (hw _ m_84) (fun _ h9 => h9) rfl d_F_missingOf_66 ?_
              refine va_get (D := (dC, dI)) (ci := 2) (v := .ref a5) (C := R_S) (T := T_S) (N := 7) hx hb hw in_S hown hK hP 7 rfl rfl 5 (by decide) (hw _ m_64) (fun _ h9 => h9) rfl d_F_missingOf_69 ?_
              refine lv_iload hx hb d_F_missingOf_72 (lv_at hl 4 rfl) ?_
              refine fz_iald hx hb hK hP 12 0 rfl rfl (j := fld) (by omega) (by omega) d_F_missingOf_74 ?_
              refine lv_istore (lv' := [(4, .int (nI (fo fld))), (0, .ref x0), (1, .int (nI to)), (2, .int (nI fr)), (3, .int (nI cm)), (5, .int (nI (kc fr))), (6, .int (nI sen))]) hx hb d_F_missingOf_75 hl (by decide) rfl (fun ls hl => ?_)
              refine lv_iinc (v := nI (sen + 1)) (lv' := [(6, .int (nI (sen + 1))), (4, .int (nI (fo fld))), (0, .ref x0), (1, .int (nI to)), (2, .int (nI fr)), (3, .int (nI cm)), (5, .int (nI (kc fr)))]) hx hb d_F_missingOf_77 hl (k := 6) rfl (fz_inc sen) (by decide) rfl (fun ls hl => ?_)
              refine lv_goto (tgt := 27) hx hb d_F_missingOf_80 (by decide) ?_
              exact ih (fo fld) (sen + 1) cm fld (by have := hCT.1 fld (Nat.pos_of_ne_zero c36) hfn; rw [hff.2.2] at this; exact this) hfn (by omega) (by rw [hstep, if_neg (fun h => c59 h.2), hcm, Nat.add_zero]) (by omega) ls (lv_sub hl [2, 3, 4, 5, 1, 6, 0] rfl)
            · have c59 : aF a (to * 8 + aO a fld % 8) (aK a fld) = 0 := (nI_eq (by omega) (by omega)).mp (c59.trans nI_0.symm)
              refine lv_iinc (v := nI (cm + 1)) (lv' := [(3, .int (nI (cm + 1))), (0, .ref x0), (1, .int (nI to)), (2, .int (nI fr)), (4, .int (nI fld)), (5, .int (nI (kc fr))), (6, .int (nI sen))]) hx hb d_F_missingOf_62 hl (k := 3) rfl (fz_inc cm) (by decide) rfl (fun ls hl => ?_)
              refine lv_aload_n hx hb d_F_missingOf_65 rfl (lv_at hl 1 rfl) ?_
              refine va_get (D := (dC, dI)) (ci := 0) (v := .ref f) (C := R_F) (T := T_F) (N := 4) hx hb hw in_F hown hK hP 0 rfl rfl 1 (by decide) (hw _ m_84) (fun _ h9 => h9) rfl d_F_missingOf_66 ?_
              refine va_get (D := (dC, dI)) (ci := 2) (v := .ref a5) (C := R_S) (T := T_S) (N := 7) hx hb hw in_S hown hK hP 7 rfl rfl 5 (by decide) (hw _ m_64) (fun _ h9 => h9) rfl d_F_missingOf_69 ?_
              refine lv_iload hx hb d_F_missingOf_72 (lv_at hl 4 rfl) ?_
              refine fz_iald hx hb hK hP 12 0 rfl rfl (j := fld) (by omega) (by omega) d_F_missingOf_74 ?_
              refine lv_istore (lv' := [(4, .int (nI (fo fld))), (3, .int (nI (cm + 1))), (0, .ref x0), (1, .int (nI to)), (2, .int (nI fr)), (5, .int (nI (kc fr))), (6, .int (nI sen))]) hx hb d_F_missingOf_75 hl (by decide) rfl (fun ls hl => ?_)
              refine lv_iinc (v := nI (sen + 1)) (lv' := [(6, .int (nI (sen + 1))), (4, .int (nI (fo fld))), (3, .int (nI (cm + 1))), (0, .ref x0), (1, .int (nI to)), (2, .int (nI fr)), (5, .int (nI (kc fr)))]) hx hb d_F_missingOf_77 hl (k := 6) rfl (fz_inc sen) (by decide) rfl (fun ls hl => ?_)
              refine lv_goto (tgt := 27) hx hb d_F_missingOf_80 (by decide) ?_
              exact ih (fo fld) (sen + 1) (cm + 1) fld (by have := hCT.1 fld (Nat.pos_of_ne_zero c36) hfn; rw [hff.2.2] at this; exact this) hfn (by omega) (by rw [hstep, if_pos ⟨⟨hff.2.2, by rw [← hDf]; exact c49⟩, c59⟩, hcm]) (by omega) ls (lv_sub hl [3, 4, 5, 2, 1, 6, 0] rfl)
  exact loop_27 (aN a - 0 + 1) (fi fr) 0 0 0 (hCT.2 fr hf1 hf2).1 (Nat.zero_le _) (Nat.zero_le _) rfl (Nat.lt_succ_self _) ls (lv_sub hl [4, 5, 6, 3, 2, 1, 0] rfl)
set_option maxHeartbeats 4000000 in
set_option maxRecDepth 100000 in
/-- holdsAll -/
theorem c_holdsAll (l : Launch) (dC : Nat → ClassId) (dI : Nat → Nat → Nat) (cI cL cB : ClassId) (x0 : Nat) (tr : Nat) (f : Nat) (y1 : Nat) (y2 : Nat) (y3 : Nat) (y4 : Nat) (y5 : Nat) (a1 : Nat) (a2 : Nat) (a3 : Nat) (a4 : Nat) (a5 : Nat) (a6 : Nat) (ck : Nat) (nT : Nat) (g : Nat) (gt : Nat) (cn : Int64) (a : AS) (fi : Nat → Nat) (la : Nat → Nat) (kc : Nat → Nat) (vc : Nat → Nat) (bo : Nat → Nat) (ow : Nat → Nat) (ky : Nat → Int64) (kd : Nat → Nat) (nu : Nat → Int64) (fo : Nat → Nat) (sn : Nat → Nat) (t : Nat) (oth : Nat) (hCI : CI nT a g gt ow ky kd nu fo sn fi la kc vc bo) (ht2 : t ≤ nT) (hf1 : 1 ≤ oth) (hf2 : oth ≤ nT) : QryI l y_F_holdsAll (wd y_F_holdsAll b_F_holdsAll 6 (some .boolean)) 4 97 (dC, dI) classes (tyK cI cL cB) [.ref x0, .int (nI t), .int (nI oth)] [(x0, .inr (0, [.ref tr, .ref f, .int (nI ck), .long cn])), (tr, .inr (1, [.int (nI nT), .ref y1, .ref y2, .ref y3, .ref y4, .ref y5])), (y1, .inl (cI, hz_R gt, .inl (nf fi))), (y2, .inl (cI, hz_R gt, .inl (nf la))), (y3, .inl (cI, hz_R gt, .inl (nf kc))), (y4, .inl (cI, hz_R gt, .inl (nf vc))), (y5, .inl (cI, hz_R gt, .inl (nf bo))), (f, .inr (2, [.int (nI (aN a)), .ref a1, .ref a2, .ref a3, .ref a4, .ref a5, .ref a6])), (a1, .inl (cI, hz_L g, .inl (nf ow))), (a2, .inl (cL, hz_L g, .inr (.inl ky))), (a3, .inl (cB, hz_L g, .inl (nf kd))), (a4, .inl (cL, hz_L g, .inr (.inl nu))), (a5, .inl (cI, hz_L g, .inl (nf fo))), (a6, .inl (cI, hz_M g, .inl (nf sn)))] (fun r : Int32 => ∃ b, b ≤ 1 ∧ r = nI b ∧ (b = 1 ↔ subA a oth t)) := by
  obtain ⟨hCS, hCT, hgt, hRT⟩ := id hCI
  have hAI := hCS.1
  have hnT := hCS.2.1
  have hg := hCS.2.2.1
  have hnL := hCS.2.2.2.1
  have hAg := hCS.2.2.2.2.1
  have hk8 := hCS.2.2.2.2.2.1
  have hT := hCS.2.2.2.2.2.2
  have hO := hCS.O
  have hU := hCS.U
  have hg1 := hz_gen g hg
  have hg2 := hz_Rgen gt hgt
  have hn4 := hAI.1
  refine QryZ.mk (cc := b_F_holdsAll) (maxL := 6) (by decide) rfl (Nat.le_of_ble_eq_true rfl) ?_
  intro p e s m below meth c Z ls hx hb hml hown hts hP hK hret hl
  have hP : va_P (dC, dI) classes [(x0, .inr (0, [.ref tr, .ref f, .int (nI ck), .long cn])), (tr, .inr (1, [.int (nI nT), .ref y1, .ref y2, .ref y3, .ref y4, .ref y5])), (y1, .inl (cI, hz_R gt, .inl (nf fi))), (y2, .inl (cI, hz_R gt, .inl (nf la))), (y3, .inl (cI, hz_R gt, .inl (nf kc))), (y4, .inl (cI, hz_R gt, .inl (nf vc))), (y5, .inl (cI, hz_R gt, .inl (nf bo))), (f, .inr (2, [.int (nI (aN a)), .ref a1, .ref a2, .ref a3, .ref a4, .ref a5, .ref a6])), (a1, .inl (cI, hz_L g, .inl (nf ow))), (a2, .inl (cL, hz_L g, .inr (.inl ky))), (a3, .inl (cB, hz_L g, .inl (nf kd))), (a4, .inl (cL, hz_L g, .inr (.inl nu))), (a5, .inl (cI, hz_L g, .inl (nf fo))), (a6, .inl (cI, hz_M g, .inl (nf sn)))] s.heap := hP
  have hown : s.vm.findClass R_F = some m.cls := hown
  have hw : ∀ x ∈ WALL, x.before _ s = true := fun x h => hts x (List.mem_cons_of_mem _ h)
  have hl : lv_has ls 6 [(0, .ref x0), (1, .int (nI t)), (2, .int (nI oth))] := hl
  refine lv_aload_n hx hb d_F_holdsAll_0 rfl (lv_at hl 0 rfl) ?_
  refine va_get (D := (dC, dI)) (ci := 0) (v := .ref tr) (C := R_F) (T := T_F) (N := 4) hx hb hw in_F hown hK hP 0 rfl rfl 0 (by decide) (hw _ m_83) (fun _ h9 => h9) rfl d_F_holdsAll_1 ?_
  refine va_get (D := (dC, dI)) (ci := 1) (v := .ref y1) (C := R_T) (T := T_T) (N := 6) hx hb hw in_T hown hK hP 1 rfl rfl 1 (by decide) (hw _ m_25) (fun _ h9 => h9) rfl d_F_holdsAll_4 ?_
  refine lv_iload_n hx hb d_F_holdsAll_7 rfl (lv_at hl 2 rfl) ?_
  refine fz_iald hx hb hK hP 2 0 rfl rfl (j := oth) (by omega) (by omega) d_F_holdsAll_8 ?_
  refine lv_istore_n (lv' := [(3, .int (nI (fi oth))), (0, .ref x0), (1, .int (nI t)), (2, .int (nI oth))]) hx hb d_F_holdsAll_9 rfl hl (by decide) rfl (fun ls hl => ?_)
  refine lv_aload_n hx hb d_F_holdsAll_10 rfl (lv_at hl 1 rfl) ?_
  refine va_get (D := (dC, dI)) (ci := 0) (v := .ref tr) (C := R_F) (T := T_F) (N := 4) hx hb hw in_F hown hK hP 0 rfl rfl 0 (by decide) (hw _ m_83) (fun _ h9 => h9) rfl d_F_holdsAll_11 ?_
  refine va_get (D := (dC, dI)) (ci := 1) (v := .ref y3) (C := R_T) (T := T_T) (N := 6) hx hb hw in_T hown hK hP 1 rfl rfl 3 (by decide) (hw _ m_29) (fun _ h9 => h9) rfl d_F_holdsAll_14 ?_
  refine lv_iload_n hx hb d_F_holdsAll_17 rfl (lv_at hl 3 rfl) ?_
  refine fz_iald hx hb hK hP 4 0 rfl rfl (j := oth) (by omega) (by omega) d_F_holdsAll_18 ?_
  refine lv_istore (lv' := [(4, .int (nI (kc oth))), (3, .int (nI (fi oth))), (0, .ref x0), (1, .int (nI t)), (2, .int (nI oth))]) hx hb d_F_holdsAll_19 hl (by decide) rfl (fun ls hl => ?_)
  refine lv_iconst (v := nI 0) hx hb d_F_holdsAll_21 (by decide) ?_
  refine lv_istore (lv' := [(5, .int (nI 0)), (4, .int (nI (kc oth))), (3, .int (nI (fi oth))), (0, .ref x0), (1, .int (nI t)), (2, .int (nI oth))]) hx hb d_F_holdsAll_22 hl (by decide) rfl (fun ls hl => ?_)
  have loop_24 : ∀ (fuel : Nat) (fld : Nat) (sen : Nat) (q : Nat), ch_N (aO a) oth (aN a) q fld → q ≤ aN a → sen ≤ cQ a oth q → (∀ i, 1 ≤ i → i ≤ q → aO a i / 8 = oth → aD a i ≠ 0 → aD a i = aD a (aF a (t * 8 + aO a i % 8) (aK a i)) ∧ aU a i = aU a (aF a (t * 8 + aO a i % 8) (aK a i))) → aN a - q < fuel → ∀ (ls : Array Slot), lv_has ls 6 [(0, .ref x0), (1, .int (nI t)), (2, .int (nI oth)), (3, .int (nI fld)), (4, .int (nI (kc oth))), (5, .int (nI sen))] → W p l e { frames := 4, cells := 0, slots := 0, locals := 97 } s m [.ref x0, .int (nI t), .int (nI oth)].toArray below meth c s.heap [] 0 0 Z (F0 m 24 ls []) := by
    intro fuel
    induction fuel with
    | zero => intro fld sen q hfl hqn hse hsb hfuel; exact absurd hfuel (Nat.not_lt_zero _)
    | succ fuel ih =>
      intro fld sen q hfl hqn hse hsb hfuel ls hl
      have hfn := hfl.le
      have hkc := (hCT.2 oth hf1 hf2).2.2.1
      have hkn : kc oth ≤ aN a := by rw [hkc]; exact cnt_le _ _
      have hcq := cQ_le (t := oth) hqn
      refine lv_iload hx hb d_F_holdsAll_24 (lv_at hl 5 rfl) ?_
      refine lv_iload hx hb d_F_holdsAll_26 (lv_at hl 4 rfl) ?_
      refine lv_icmp_ge (tgt := 82) hx hb d_F_holdsAll_28 (by decide) (fun c28 => ?_) (fun c28 => ?_)
      · have c28 : kc oth ≤ sen := by exact (nI_leI (by omega) (by omega)).mp c28
        refine lv_iconst (v := nI 1) hx hb d_F_holdsAll_82 (by decide) ?_
        have hf0 : fld = 0 := by
          by_cases z : fld = 0
          · exact z
          · have := cQ_next hfl z; omega
        have hall : subA a oth t := fun i i1 i2 i3 i4 => by
          rcases Nat.lt_or_ge q i with z | z
          · rcases hfl with ⟨_, w⟩ | ⟨w, _⟩
            · exact absurd i3 (w i z i2)
            · omega
          · exact hsb i i1 z i3 i4
        exact hret (nI 1) 83 ls (Or.inr rfl) ⟨1, by omega, rfl, fun _ => hall, fun _ => rfl⟩ d_F_holdsAll_83
      · have c28 : ¬ kc oth ≤ sen := fun h => c28 (by exact (nI_leI (by omega) (by omega)).mpr h)
        refine lv_iload_n hx hb d_F_holdsAll_31 rfl (lv_at hl 3 rfl) ?_
        refine lv_if_eq (tgt := 82) hx hb d_F_holdsAll_32 (by decide) (fun c32 => ?_) (fun c32 => ?_)
        · have c32 : fld = 0 := (nI_eq (by omega) (by omega)).mp (c32.trans nI_0.symm)
          refine lv_iconst (v := nI 1) hx hb d_F_holdsAll_82 (by decide) ?_
          have hf0 : fld = 0 := c32
          have hall : subA a oth t := fun i i1 i2 i3 i4 => by
            rcases Nat.lt_or_ge q i with z | z
            · rcases hfl with ⟨_, w⟩ | ⟨w, _⟩
              · exact absurd i3 (w i z i2)
              · omega
            · exact hsb i i1 z i3 i4
          exact hret (nI 1) 83 ls (Or.inr rfl) ⟨1, by omega, rfl, fun _ => hall, fun _ => rfl⟩ d_F_holdsAll_83
        · have c32 : ¬ fld = 0 := fun h => c32 (((nI_eq (by omega) (by omega)).mpr h).trans nI_0)
          have hff := hfl.facts c32
          have hcn := cQ_next hfl c32
          have hkf := hk8 fld
          have hAf := hAg fld hfn
          have hle9 := aF_le a (t * 8 + aO a fld % 8) (aK a fld)
          have hAt := hAg (aF a (t * 8 + aO a fld % 8) (aK a fld)) hle9
          refine lv_aload_n hx hb d_F_holdsAll_35 rfl (lv_at hl 0 rfl) ?_
          refine va_get (D := (dC, dI)) (ci := 0) (v := .ref f) (C := R_F) (T := T_F) (N := 4) hx hb hw in_F hown hK hP 0 rfl rfl 1 (by decide) (hw _ m_84) (fun _ h9 => h9) rfl d_F_holdsAll_36 ?_
          refine va_get (D := (dC, dI)) (ci := 2) (v := .ref a3) (C := R_S) (T := T_S) (N := 7) hx hb hw in_S hown hK hP 7 rfl rfl 3 (by decide) (hw _ m_60) (fun _ h9 => h9) rfl d_F_holdsAll_39 ?_
          refine lv_iload_n hx hb d_F_holdsAll_42 rfl (lv_at hl 3 rfl) ?_
          refine fz_bald hx hb hK hP 10 2 rfl rfl (j := fld) (by omega) (by omega) d_F_holdsAll_43 ?_
          refine lv_if_eq (tgt := 66) hx hb d_F_holdsAll_44 (by decide) (fun c44 => ?_) (fun c44 => ?_)
          · have c44 : kd fld = 0 := (nI_eq (by omega) (by omega)).mp (c44.trans nI_0.symm)
            refine lv_aload_n hx hb d_F_holdsAll_66 rfl (lv_at hl 0 rfl) ?_
            refine va_get (D := (dC, dI)) (ci := 0) (v := .ref f) (C := R_F) (T := T_F) (N := 4) hx hb hw in_F hown hK hP 0 rfl rfl 1 (by decide) (hw _ m_84) (fun _ h9 => h9) rfl d_F_holdsAll_67 ?_
            refine va_get (D := (dC, dI)) (ci := 2) (v := .ref a5) (C := R_S) (T := T_S) (N := 7) hx hb hw in_S hown hK hP 7 rfl rfl 5 (by decide) (hw _ m_64) (fun _ h9 => h9) rfl d_F_holdsAll_70 ?_
            refine lv_iload_n hx hb d_F_holdsAll_73 rfl (lv_at hl 3 rfl) ?_
            refine fz_iald hx hb hK hP 12 0 rfl rfl (j := fld) (by omega) (by omega) d_F_holdsAll_74 ?_
            refine lv_istore_n (lv' := [(3, .int (nI (fo fld))), (0, .ref x0), (1, .int (nI t)), (2, .int (nI oth)), (4, .int (nI (kc oth))), (5, .int (nI sen))]) hx hb d_F_holdsAll_75 rfl hl (by decide) rfl (fun ls hl => ?_)
            refine lv_iinc (v := nI (sen + 1)) (lv' := [(5, .int (nI (sen + 1))), (3, .int (nI (fo fld))), (0, .ref x0), (1, .int (nI t)), (2, .int (nI oth)), (4, .int (nI (kc oth)))]) hx hb d_F_holdsAll_76 hl (k := 5) rfl (fz_inc sen) (by decide) rfl (fun ls hl => ?_)
            refine lv_goto (tgt := 24) hx hb d_F_holdsAll_79 (by decide) ?_
            exact ih (fo fld) (sen + 1) fld (by have := hCT.1 fld (Nat.pos_of_ne_zero c32) hfn; rw [hff.2.2] at this; exact this) hfn (by omega) (fun i i1 i2 i3 i4 => by
              rcases Nat.lt_trichotomy i fld with y | y | y
              · rcases Nat.lt_or_ge q i with z | z
                · rcases hfl with ⟨w, _⟩ | ⟨_, _, _, w⟩
                  · exact absurd w c32
                  · exact absurd i3 (w i z y)
                · exact hsb i i1 z i3 i4
              · rw [y] at i4 ⊢; exact absurd (show aD a fld = 0 by rw [← hAf.2.2.1]; exact c44) i4
              · omega) (by omega) ls (lv_sub hl [2, 3, 4, 1, 5, 0] rfl)
          · have c44 : ¬ kd fld = 0 := fun h => c44 (((nI_eq (by omega) (by omega)).mpr h).trans nI_0)
            refine lv_aload_n hx hb d_F_holdsAll_47 rfl (lv_at hl 0 rfl) ?_
            refine va_get (D := (dC, dI)) (ci := 0) (v := .ref f) (C := R_F) (T := T_F) (N := 4) hx hb hw in_F hown hK hP 0 rfl rfl 1 (by decide) (hw _ m_84) (fun _ h9 => h9) rfl d_F_holdsAll_48 ?_
            refine lv_iload_n hx hb d_F_holdsAll_51 rfl (lv_at hl 3 rfl) ?_
            refine lv_aload_n hx hb d_F_holdsAll_52 rfl (lv_at hl 0 rfl) ?_
            refine lv_iload_n hx hb d_F_holdsAll_53 rfl (lv_at hl 1 rfl) ?_
            refine lv_iload_n hx hb d_F_holdsAll_54 rfl (lv_at hl 3 rfl) ?_
            refine QryI.callV (ci := 0) (q0 := 0) (c_twin l dC dI cI cL cB x0 tr f y1 y2 y3 y4 y5 a1 a2 a3 a4 a5 a6 ck nT g gt cn a fi la kc vc bo ow ky kd nu fo sn t fld hCI (by omega) (by omega)) ⟨hx, hb, hml, hown, hw⟩ (fz_cwV 2 hw m_323 m_320 m_322 ms_17 m_1 rfl rfl (by decide +kernel) ⟨Nat.le_of_ble_eq_true rfl, Nat.le_of_ble_eq_true rfl⟩) hK hP [0, 1, 2, 3, 4, 5, 6, 7, 8, 9, 10, 11, 12, 13] rfl rfl rfl rfl rfl hl.1 rfl (Nat.le_of_ble_eq_true rfl) d_F_holdsAll_55 ⟨(Nat.le_of_ble_eq_true rfl), (Nat.le_of_ble_eq_true rfl)⟩ (fun r55 h55 => ?_)
            subst h55
            refine QryI.callV (ci := 2) (q0 := 0) (c_sameValues l dC dI cI cL cB f a1 a2 a3 a4 a5 a6 (aN a) (hz_L g) fld (aF a (t * 8 + aO a fld % 8) (aK a fld)) kd nu (by omega) (by omega) (by omega) (hk8 _) (hk8 _)) ⟨hx, hb, hml, hown, hw⟩ (fz_cwV 2 hw m_327 m_324 m_325 m_326 m_3 rfl rfl (by decide +kernel) ⟨Nat.le_of_ble_eq_true rfl, Nat.le_of_ble_eq_true rfl⟩) hK hP [7, 10, 11] rfl rfl rfl rfl rfl hl.1 rfl (Nat.le_of_ble_eq_true rfl) d_F_holdsAll_58 ⟨(Nat.le_of_ble_eq_true rfl), (Nat.le_of_ble_eq_true rfl)⟩ (fun r58 h58 => ?_)
            obtain ⟨b58, hb58, e58, hok58⟩ : ∃ b, b ≤ 1 ∧ r58 = nI b ∧ (b = 1 ↔ (kd fld = kd (aF a (t * 8 + aO a fld % 8) (aK a fld)) ∧ nu fld = nu (aF a (t * 8 + aO a fld % 8) (aK a fld)))) := by
              rw [h58]
              by_cases z : kd fld = kd (aF a (t * 8 + aO a fld % 8) (aK a fld)) ∧ nu fld = nu (aF a (t * 8 + aO a fld % 8) (aK a fld))
              · rw [if_pos z]; exact ⟨1, by omega, rfl, fun _ => z, fun _ => rfl⟩
              · rw [if_neg z]; exact ⟨0, by omega, rfl, fun h => absurd h (by omega), fun h => absurd h z⟩
            clear h58
            subst e58
            refine lv_if_ne (tgt := 66) hx hb d_F_holdsAll_61 (by decide) (fun c61 => ?_) (fun c61 => ?_)
            · have c61 : ¬ b58 = 0 := fun h => c61 (((nI_eq (by omega) (by omega)).mpr h).trans nI_0)
              have hsv := hok58.mp (by omega)
              refine lv_aload_n hx hb d_F_holdsAll_66 rfl (lv_at hl 0 rfl) ?_
              refine va_get (D := (dC, dI)) (ci := 0) (v := .ref f) (C := R_F) (T := T_F) (N := 4) hx hb hw in_F hown hK hP 0 rfl rfl 1 (by decide) (hw _ m_84) (fun _ h9 => h9) rfl d_F_holdsAll_67 ?_
              refine va_get (D := (dC, dI)) (ci := 2) (v := .ref a5) (C := R_S) (T := T_S) (N := 7) hx hb hw in_S hown hK hP 7 rfl rfl 5 (by decide) (hw _ m_64) (fun _ h9 => h9) rfl d_F_holdsAll_70 ?_
              refine lv_iload_n hx hb d_F_holdsAll_73 rfl (lv_at hl 3 rfl) ?_
              refine fz_iald hx hb hK hP 12 0 rfl rfl (j := fld) (by omega) (by omega) d_F_holdsAll_74 ?_
              refine lv_istore_n (lv' := [(3, .int (nI (fo fld))), (0, .ref x0), (1, .int (nI t)), (2, .int (nI oth)), (4, .int (nI (kc oth))), (5, .int (nI sen))]) hx hb d_F_holdsAll_75 rfl hl (by decide) rfl (fun ls hl => ?_)
              refine lv_iinc (v := nI (sen + 1)) (lv' := [(5, .int (nI (sen + 1))), (3, .int (nI (fo fld))), (0, .ref x0), (1, .int (nI t)), (2, .int (nI oth)), (4, .int (nI (kc oth)))]) hx hb d_F_holdsAll_76 hl (k := 5) rfl (fz_inc sen) (by decide) rfl (fun ls hl => ?_)
              refine lv_goto (tgt := 24) hx hb d_F_holdsAll_79 (by decide) ?_
              exact ih (fo fld) (sen + 1) fld (by have := hCT.1 fld (Nat.pos_of_ne_zero c32) hfn; rw [hff.2.2] at this; exact this) hfn (by omega) (fun i i1 i2 i3 i4 => by
                rcases Nat.lt_trichotomy i fld with y | y | y
                · rcases Nat.lt_or_ge q i with z | z
                  · rcases hfl with ⟨w, _⟩ | ⟨_, _, _, w⟩
                    · exact absurd w c32
                    · exact absurd i3 (w i z y)
                  · exact hsb i i1 z i3 i4
                · rw [y] at i4 ⊢; rw [← hAf.2.2.1, ← hAf.2.2.2, ← hAt.2.2.1, ← hAt.2.2.2]; exact hsv
                · omega) (by omega) ls (lv_sub hl [2, 3, 4, 1, 5, 0] rfl)
            · have c61 : b58 = 0 := (nI_eq (by omega) (by omega)).mp (c61.trans nI_0.symm)
              have hsv : ¬ (kd fld = kd (aF a (t * 8 + aO a fld % 8) (aK a fld)) ∧ nu fld = nu (aF a (t * 8 + aO a fld % 8) (aK a fld))) := fun z => absurd (hok58.mpr z) (by omega)
              refine lv_iconst (v := nI 0) hx hb d_F_holdsAll_64 (by decide) ?_
              exact hret (nI 0) 65 ls (Or.inl rfl) ⟨0, by omega, rfl, fun h => absurd h (by omega), fun h => absurd h (fun h => hsv (by have z := h fld (by omega) hfn hff.2.2 (by rw [← hAf.2.2.1]; exact c44); rw [hAf.2.2.1, hAf.2.2.2, hAt.2.2.1, hAt.2.2.2]; exact z))⟩ d_F_holdsAll_65
  exact loop_24 (aN a - 0 + 1) (fi oth) 0 0 (hCT.2 oth hf1 hf2).1 (Nat.zero_le _) (Nat.zero_le _) (fun i i1 i2 => by omega) (Nat.lt_succ_self _) ls (lv_sub hl [3, 4, 5, 2, 1, 0] rfl)
set_option maxHeartbeats 4000000 in
set_option maxRecDepth 100000 in
/-- same -/
theorem c_same (l : Launch) (dC : Nat → ClassId) (dI : Nat → Nat → Nat) (cI cL cB : ClassId) (x0 : Nat) (tr : Nat) (f : Nat) (y1 : Nat) (y2 : Nat) (y3 : Nat) (y4 : Nat) (y5 : Nat) (a1 : Nat) (a2 : Nat) (a3 : Nat) (a4 : Nat) (a5 : Nat) (a6 : Nat) (ck : Nat) (nT : Nat) (g : Nat) (gt : Nat) (cn : Int64) (a : AS) (fi : Nat → Nat) (la : Nat → Nat) (kc : Nat → Nat) (vc : Nat → Nat) (bo : Nat → Nat) (ow : Nat → Nat) (ky : Nat → Int64) (kd : Nat → Nat) (nu : Nat → Int64) (fo : Nat → Nat) (sn : Nat → Nat) (x : Int32) (y : Int32) (hCI : CI nT a g gt ow ky kd nu fo sn fi la kc vc bo) : QryI l y_F_same (wd y_F_same b_F_same 4 (some .int)) 5 122 (dC, dI) classes (tyK cI cL cB) [.ref x0, .int x, .int y] [(x0, .inr (0, [.ref tr, .ref f, .int (nI ck), .long cn])), (tr, .inr (1, [.int (nI nT), .ref y1, .ref y2, .ref y3, .ref y4, .ref y5])), (y1, .inl (cI, hz_R gt, .inl (nf fi))), (y2, .inl (cI, hz_R gt, .inl (nf la))), (y3, .inl (cI, hz_R gt, .inl (nf kc))), (y4, .inl (cI, hz_R gt, .inl (nf vc))), (y5, .inl (cI, hz_R gt, .inl (nf bo))), (f, .inr (2, [.int (nI (aN a)), .ref a1, .ref a2, .ref a3, .ref a4, .ref a5, .ref a6])), (a1, .inl (cI, hz_L g, .inl (nf ow))), (a2, .inl (cL, hz_L g, .inr (.inl ky))), (a3, .inl (cB, hz_L g, .inl (nf kd))), (a4, .inl (cL, hz_L g, .inr (.inl nu))), (a5, .inl (cI, hz_L g, .inl (nf fo))), (a6, .inl (cI, hz_M g, .inl (nf sn)))] (fun r : Int32 => r = fSame nT a x y) := by
  obtain ⟨hCS, hCT, hgt, hRT⟩ := id hCI
  have hAI := hCS.1
  have hnT := hCS.2.1
  have hg := hCS.2.2.1
  have hnL := hCS.2.2.2.1
  have hAg := hCS.2.2.2.2.1
  have hk8 := hCS.2.2.2.2.2.1
  have hT := hCS.2.2.2.2.2.2
  have hO := hCS.O
  have hU := hCS.U
  have hg1 := hz_gen g hg
  have hg2 := hz_Rgen gt hgt
  have hn4 := hAI.1
  refine QryI.mk (cc := b_F_same) (maxL := 4) (by decide) rfl (Nat.le_of_ble_eq_true rfl) ?_
  intro p e s m below meth c Z ls hx hb hml hown hts hP hK hret hl
  have hP : va_P (dC, dI) classes [(x0, .inr (0, [.ref tr, .ref f, .int (nI ck), .long cn])), (tr, .inr (1, [.int (nI nT), .ref y1, .ref y2, .ref y3, .ref y4, .ref y5])), (y1, .inl (cI, hz_R gt, .inl (nf fi))), (y2, .inl (cI, hz_R gt, .inl (nf la))), (y3, .inl (cI, hz_R gt, .inl (nf kc))), (y4, .inl (cI, hz_R gt, .inl (nf vc))), (y5, .inl (cI, hz_R gt, .inl (nf bo))), (f, .inr (2, [.int (nI (aN a)), .ref a1, .ref a2, .ref a3, .ref a4, .ref a5, .ref a6])), (a1, .inl (cI, hz_L g, .inl (nf ow))), (a2, .inl (cL, hz_L g, .inr (.inl ky))), (a3, .inl (cB, hz_L g, .inl (nf kd))), (a4, .inl (cL, hz_L g, .inr (.inl nu))), (a5, .inl (cI, hz_L g, .inl (nf fo))), (a6, .inl (cI, hz_M g, .inl (nf sn)))] s.heap := hP
  have hown : s.vm.findClass R_F = some m.cls := hown
  have hw : ∀ x ∈ WALL, x.before _ s = true := fun x h => hts x (List.mem_cons_of_mem _ h)
  have hl : lv_has ls 4 [(0, .ref x0), (1, .int x), (2, .int y)] := hl
  refine lv_aload_n hx hb d_F_same_0 rfl (lv_at hl 0 rfl) ?_
  refine va_get (D := (dC, dI)) (ci := 0) (v := .ref tr) (C := R_F) (T := T_F) (N := 4) hx hb hw in_F hown hK hP 0 rfl rfl 0 (by decide) (hw _ m_83) (fun _ h9 => h9) rfl d_F_same_1 ?_
  refine lv_iload_n hx hb d_F_same_4 rfl (lv_at hl 1 rfl) ?_
  refine QryI.callV (ci := 1) (q0 := 0) (c_has l dC dI cI cL cB tr y1 y2 y3 y4 y5 nT x (by omega)) ⟨hx, hb, hml, hown, hw⟩ (fz_cwV 1 hw m_132 m_129 m_130 m_131 m_2 rfl rfl (by decide +kernel) ⟨Nat.le_of_ble_eq_true rfl, Nat.le_of_ble_eq_true rfl⟩) hK hP [1] rfl rfl rfl rfl rfl hl.1 rfl (Nat.le_of_ble_eq_true rfl) d_F_same_5 ⟨(Nat.le_of_ble_eq_true rfl), (Nat.le_of_ble_eq_true rfl)⟩ (fun r5 h5 => ?_)
  obtain ⟨b5, hb5, e5, hok5⟩ := h5
  subst e5
  refine lv_if_eq (tgt := 22) hx hb d_F_same_8 (by decide) (fun c8 => ?_) (fun c8 => ?_)
  · have c8 : b5 = 0 := (nI_eq (by omega) (by omega)).mp (c8.trans nI_0.symm)
    refine lv_iconst (v := -1) hx hb d_F_same_22 (by decide) ?_
    exact hret (-1) 23 ls (by unfold fSame; rw [ifc_neg (fun h => absurd (hok5.mpr h.1) (by omega))]) d_F_same_23
  · have c8 : ¬ b5 = 0 := fun h => c8 (((nI_eq (by omega) (by omega)).mpr h).trans nI_0)
    refine lv_aload_n hx hb d_F_same_11 rfl (lv_at hl 0 rfl) ?_
    refine va_get (D := (dC, dI)) (ci := 0) (v := .ref tr) (C := R_F) (T := T_F) (N := 4) hx hb hw in_F hown hK hP 0 rfl rfl 0 (by decide) (hw _ m_83) (fun _ h9 => h9) rfl d_F_same_12 ?_
    refine lv_iload_n hx hb d_F_same_15 rfl (lv_at hl 2 rfl) ?_
    refine QryI.callV (ci := 1) (q0 := 0) (c_has l dC dI cI cL cB tr y1 y2 y3 y4 y5 nT y (by omega)) ⟨hx, hb, hml, hown, hw⟩ (fz_cwV 1 hw m_132 m_129 m_130 m_131 m_2 rfl rfl (by decide +kernel) ⟨Nat.le_of_ble_eq_true rfl, Nat.le_of_ble_eq_true rfl⟩) hK hP [1] rfl rfl rfl rfl rfl hl.1 rfl (Nat.le_of_ble_eq_true rfl) d_F_same_16 ⟨(Nat.le_of_ble_eq_true rfl), (Nat.le_of_ble_eq_true rfl)⟩ (fun r16 h16 => ?_)
    obtain ⟨b16, hb16, e16, hok16⟩ := h16
    subst e16
    refine lv_if_ne (tgt := 24) hx hb d_F_same_19 (by decide) (fun c19 => ?_) (fun c19 => ?_)
    · have c19 : ¬ b16 = 0 := fun h => c19 (((nI_eq (by omega) (by omega)).mpr h).trans nI_0)
      obtain ⟨s, hs1, hs2, exs⟩ := hok5.mp (by omega)
      rw [exs] at hl
      obtain ⟨t, ht1, ht2, ext⟩ := hok16.mp (by omega)
      rw [ext] at hl
      have hv1 := (hCT.2 s hs1 hs2).2.2.2.1
      have hv2 := (hCT.2 t ht1 ht2).2.2.2.1
      have hw1 : vc s ≤ aN a := by rw [hv1]; exact cnt_le _ _
      have hw2 : vc t ≤ aN a := by rw [hv2]; exact cnt_le _ _
      refine lv_aload_n hx hb d_F_same_24 rfl (lv_at hl 0 rfl) ?_
      refine va_get (D := (dC, dI)) (ci := 0) (v := .ref tr) (C := R_F) (T := T_F) (N := 4) hx hb hw in_F hown hK hP 0 rfl rfl 0 (by decide) (hw _ m_83) (fun _ h9 => h9) rfl d_F_same_25 ?_
      refine va_get (D := (dC, dI)) (ci := 1) (v := .ref y4) (C := R_T) (T := T_T) (N := 6) hx hb hw in_T hown hK hP 1 rfl rfl 4 (by decide) (hw _ m_31) (fun _ h9 => h9) rfl d_F_same_28 ?_
      refine lv_iload_n hx hb d_F_same_31 rfl (lv_at hl 1 rfl) ?_
      refine fz_iald hx hb hK hP 5 0 rfl rfl (j := s) (by omega) (by omega) d_F_same_32 ?_
      refine lv_aload_n hx hb d_F_same_33 rfl (lv_at hl 0 rfl) ?_
      refine va_get (D := (dC, dI)) (ci := 0) (v := .ref tr) (C := R_F) (T := T_F) (N := 4) hx hb hw in_F hown hK hP 0 rfl rfl 0 (by decide) (hw _ m_83) (fun _ h9 => h9) rfl d_F_same_34 ?_
      refine va_get (D := (dC, dI)) (ci := 1) (v := .ref y4) (C := R_T) (T := T_T) (N := 6) hx hb hw in_T hown hK hP 1 rfl rfl 4 (by decide) (hw _ m_31) (fun _ h9 => h9) rfl d_F_same_37 ?_
      refine lv_iload_n hx hb d_F_same_40 rfl (lv_at hl 2 rfl) ?_
      refine fz_iald hx hb hK hP 5 0 rfl rfl (j := t) (by omega) (by omega) d_F_same_41 ?_
      refine lv_icmp_ne (tgt := 58) hx hb d_F_same_42 (by decide) (fun c42 => ?_) (fun c42 => ?_)
      · have c42 : ¬ vc s = vc t := fun h => c42 (by exact (nI_eq (by omega) (by omega)).mpr h)
        refine lv_iconst (v := nI 0) hx hb d_F_same_58 (by decide) ?_
        refine lv_istore_n (lv' := [(3, .int (nI 0)), (0, .ref x0), (1, .int (nI s)), (2, .int (nI t))]) hx hb d_F_same_59 rfl hl (by decide) rfl (fun ls hl => ?_)
        refine lv_iload_n hx hb d_F_same_60 rfl (lv_at hl 0 rfl) ?_
        refine lv_if_eq (tgt := 68) hx hb d_F_same_61 (by decide) (fun c61 => ?_) (fun c61 => ?_)
        · have c61 : 0 = 0 := (nI_eq (by omega) (by omega)).mp (c61.trans nI_0.symm)
          refine lv_iconst (v := nI 0) hx hb d_F_same_68 (by decide) ?_
          exact hret (nI 0) 69 ls (by unfold fSame; rw [ifc_pos ⟨hok5.mp (by omega), hok16.mp (by omega)⟩, exs, ext, tN_nI (by omega), tN_nI (by omega)]; rw [ifc_neg (fun h => c42 (by rw [hv1, hv2]; exact Nat.le_antisymm (sub_cV hAI h.1) (sub_cV hAI h.2)))]) d_F_same_69
        · have c61 : ¬ 0 = 0 := fun h => c61 (((nI_eq (by omega) (by omega)).mpr h).trans nI_0)
          exact absurd rfl c61
      · have c42 : vc s = vc t := by exact (nI_eq (by omega) (by omega)).mp c42
        refine lv_aload_n hx hb d_F_same_45 rfl (lv_at hl 0 rfl) ?_
        refine lv_iload_n hx hb d_F_same_46 rfl (lv_at hl 2 rfl) ?_
        refine lv_iload_n hx hb d_F_same_47 rfl (lv_at hl 1 rfl) ?_
        refine QryI.callV (ci := 0) (q0 := 0) (c_holdsAll l dC dI cI cL cB x0 tr f y1 y2 y3 y4 y5 a1 a2 a3 a4 a5 a6 ck nT g gt cn a fi la kc vc bo ow ky kd nu fo sn t s hCI (by omega) (by omega) (by omega)) ⟨hx, hb, hml, hown, hw⟩ (fz_cwV 2 hw m_319 m_316 m_318 ms_16 m_1 rfl rfl (by decide +kernel) ⟨Nat.le_of_ble_eq_true rfl, Nat.le_of_ble_eq_true rfl⟩) hK hP [0, 1, 2, 3, 4, 5, 6, 7, 8, 9, 10, 11, 12, 13] rfl rfl rfl rfl rfl hl.1 rfl (Nat.le_of_ble_eq_true rfl) d_F_same_48 ⟨(Nat.le_of_ble_eq_true rfl), (Nat.le_of_ble_eq_true rfl)⟩ (fun r48 h48 => ?_)
        obtain ⟨b48, hb48, e48, hok48⟩ := h48
        subst e48
        refine lv_if_eq (tgt := 58) hx hb d_F_same_51 (by decide) (fun c51 => ?_) (fun c51 => ?_)
        · have c51 : b48 = 0 := (nI_eq (by omega) (by omega)).mp (c51.trans nI_0.symm)
          refine lv_iconst (v := nI 0) hx hb d_F_same_58 (by decide) ?_
          refine lv_istore_n (lv' := [(3, .int (nI 0)), (0, .ref x0), (1, .int (nI s)), (2, .int (nI t))]) hx hb d_F_same_59 rfl hl (by decide) rfl (fun ls hl => ?_)
          refine lv_iload_n hx hb d_F_same_60 rfl (lv_at hl 0 rfl) ?_
          refine lv_if_eq (tgt := 68) hx hb d_F_same_61 (by decide) (fun c61 => ?_) (fun c61 => ?_)
          · have c61 : 0 = 0 := (nI_eq (by omega) (by omega)).mp (c61.trans nI_0.symm)
            refine lv_iconst (v := nI 0) hx hb d_F_same_68 (by decide) ?_
            exact hret (nI 0) 69 ls (by unfold fSame; rw [ifc_pos ⟨hok5.mp (by omega), hok16.mp (by omega)⟩, exs, ext, tN_nI (by omega), tN_nI (by omega)]; rw [ifc_neg (fun h => absurd (hok48.mpr h.1) (by omega))]) d_F_same_69
          · have c61 : ¬ 0 = 0 := fun h => c61 (((nI_eq (by omega) (by omega)).mpr h).trans nI_0)
            exact absurd rfl c61
        · have c51 : ¬ b48 = 0 := fun h => c51 (((nI_eq (by omega) (by omega)).mpr h).trans nI_0)
          refine lv_iconst (v := nI 1) hx hb d_F_same_54 (by decide) ?_
          refine lv_goto (tgt := 59) hx hb d_F_same_55 (by decide) ?_
          refine lv_istore_n (lv' := [(3, .int (nI 1)), (0, .ref x0), (1, .int (nI s)), (2, .int (nI t))]) hx hb d_F_same_59 rfl hl (by decide) rfl (fun ls hl => ?_)
          refine lv_iload_n hx hb d_F_same_60 rfl (lv_at hl 0 rfl) ?_
          refine lv_if_eq (tgt := 68) hx hb d_F_same_61 (by decide) (fun c61 => ?_) (fun c61 => ?_)
          · have c61 : 1 = 0 := (nI_eq (by omega) (by omega)).mp (c61.trans nI_0.symm)
            exact absurd c61 (by omega)
          · have c61 : ¬ 1 = 0 := fun h => c61 (((nI_eq (by omega) (by omega)).mpr h).trans nI_0)
            refine lv_iconst (v := nI 1) hx hb d_F_same_64 (by decide) ?_
            refine lv_goto (tgt := 69) hx hb d_F_same_65 (by decide) ?_
            exact hret (nI 1) 69 ls (by unfold fSame; rw [ifc_pos ⟨hok5.mp (by omega), hok16.mp (by omega)⟩, exs, ext, tN_nI (by omega), tN_nI (by omega)]; rw [ifc_pos ⟨hok48.mp (by omega), sub_eq hAI (hok48.mp (by omega)) (by rw [← hv1, ← hv2]; exact c42)⟩]) d_F_same_69
    · have c19 : b16 = 0 := (nI_eq (by omega) (by omega)).mp (c19.trans nI_0.symm)
      refine lv_iconst (v := -1) hx hb d_F_same_22 (by decide) ?_
      exact hret (-1) 23 ls (by unfold fSame; rw [ifc_neg (fun h => absurd (hok16.mpr h.2) (by omega))]) d_F_same_23
set_option maxHeartbeats 4000000 in
set_option maxRecDepth 100000 in
/-- copy -/
theorem c_copy (l : Launch) (dC : Nat → ClassId) (dI : Nat → Nat → Nat) (cI cL cB : ClassId) (x0 : Nat) (tr : Nat) (f : Nat) (y1 : Nat) (y2 : Nat) (y3 : Nat) (y4 : Nat) (y5 : Nat) (a1 : Nat) (a2 : Nat) (a3 : Nat) (a4 : Nat) (a5 : Nat) (a6 : Nat) (ck : Nat) (nT : Nat) (g : Nat) (gt : Nat) (cn : Int64) (a : AS) (fi : Nat → Nat) (la : Nat → Nat) (kc : Nat → Nat) (vc : Nat → Nat) (bo : Nat → Nat) (ow : Nat → Nat) (ky : Nat → Int64) (kd : Nat → Nat) (nu : Nat → Int64) (fo : Nat → Nat) (sn : Nat → Nat) (x : Int32) (y : Int32) (hCI : CI nT a g gt ow ky kd nu fo sn fi la kc vc bo) : StdI l y_F_copy (wd y_F_copy b_F_copy 8 (some .int)) 6 155 (6 * (gF g (aN ((fCopy nT a x y).2)) - g)) (Gs (gF g (aN ((fCopy nT a x y).2))) - Gs g) (dC, dI) classes (tyK cI cL cB) [.ref x0, .int x, .int y] [(x0, .inr (0, [.ref tr, .ref f, .int (nI ck), .long cn])), (tr, .inr (1, [.int (nI nT), .ref y1, .ref y2, .ref y3, .ref y4, .ref y5])), (y1, .inl (cI, hz_R gt, .inl (nf fi))), (y2, .inl (cI, hz_R gt, .inl (nf la))), (y3, .inl (cI, hz_R gt, .inl (nf kc))), (y4, .inl (cI, hz_R gt, .inl (nf vc))), (y5, .inl (cI, hz_R gt, .inl (nf bo))), (f, .inr (2, [.int (nI (aN a)), .ref a1, .ref a2, .ref a3, .ref a4, .ref a5, .ref a6])), (a1, .inl (cI, hz_L g, .inl (nf ow))), (a2, .inl (cL, hz_L g, .inr (.inl ky))), (a3, .inl (cB, hz_L g, .inl (nf kd))), (a4, .inl (cL, hz_L g, .inr (.inl nu))), (a5, .inl (cI, hz_L g, .inl (nf fo))), (a6, .inl (cI, hz_M g, .inl (nf sn)))] (fun (r : Int32) (u : Nat × Nat × Nat × Nat × Nat × Nat × (Nat → Nat) × (Nat → Nat) × (Nat → Nat) × (Nat → Nat) × (Nat → Nat) × (Nat → Nat) × (Nat → Int64) × (Nat → Nat) × (Nat → Int64) × (Nat → Nat) × (Nat → Nat)) => r = (fCopy nT a x y).1 ∧ CI nT ((fCopy nT a x y).2) (gF g (aN ((fCopy nT a x y).2))) gt u.2.2.2.2.2.2.2.2.2.2.2.1 u.2.2.2.2.2.2.2.2.2.2.2.2.1 u.2.2.2.2.2.2.2.2.2.2.2.2.2.1 u.2.2.2.2.2.2.2.2.2.2.2.2.2.2.1 u.2.2.2.2.2.2.2.2.2.2.2.2.2.2.2.1 u.2.2.2.2.2.2.2.2.2.2.2.2.2.2.2.2 u.2.2.2.2.2.2.1 u.2.2.2.2.2.2.2.1 u.2.2.2.2.2.2.2.2.1 u.2.2.2.2.2.2.2.2.2.1 u.2.2.2.2.2.2.2.2.2.2.1) (fun (u : Nat × Nat × Nat × Nat × Nat × Nat × (Nat → Nat) × (Nat → Nat) × (Nat → Nat) × (Nat → Nat) × (Nat → Nat) × (Nat → Nat) × (Nat → Int64) × (Nat → Nat) × (Nat → Int64) × (Nat → Nat) × (Nat → Nat)) => [(x0, .inr (0, [.ref tr, .ref f, .int (nI ck), .long cn])), (tr, .inr (1, [.int (nI nT), .ref y1, .ref y2, .ref y3, .ref y4, .ref y5])), (y1, .inl (cI, hz_R gt, .inl (nf u.2.2.2.2.2.2.1))), (y2, .inl (cI, hz_R gt, .inl (nf u.2.2.2.2.2.2.2.1))), (y3, .inl (cI, hz_R gt, .inl (nf u.2.2.2.2.2.2.2.2.1))), (y4, .inl (cI, hz_R gt, .inl (nf u.2.2.2.2.2.2.2.2.2.1))), (y5, .inl (cI, hz_R gt, .inl (nf u.2.2.2.2.2.2.2.2.2.2.1))), (f, .inr (2, [.int (nI (aN ((fCopy nT a x y).2))), .ref u.1, .ref u.2.1, .ref u.2.2.1, .ref u.2.2.2.1, .ref u.2.2.2.2.1, .ref u.2.2.2.2.2.1])), (u.1, .inl (cI, hz_L (gF g (aN ((fCopy nT a x y).2))), .inl (nf u.2.2.2.2.2.2.2.2.2.2.2.1))), (u.2.1, .inl (cL, hz_L (gF g (aN ((fCopy nT a x y).2))), .inr (.inl u.2.2.2.2.2.2.2.2.2.2.2.2.1))), (u.2.2.1, .inl (cB, hz_L (gF g (aN ((fCopy nT a x y).2))), .inl (nf u.2.2.2.2.2.2.2.2.2.2.2.2.2.1))), (u.2.2.2.1, .inl (cL, hz_L (gF g (aN ((fCopy nT a x y).2))), .inr (.inl u.2.2.2.2.2.2.2.2.2.2.2.2.2.2.1))), (u.2.2.2.2.1, .inl (cI, hz_L (gF g (aN ((fCopy nT a x y).2))), .inl (nf u.2.2.2.2.2.2.2.2.2.2.2.2.2.2.2.1))), (u.2.2.2.2.2.1, .inl (cI, hz_M (gF g (aN ((fCopy nT a x y).2))), .inl (nf u.2.2.2.2.2.2.2.2.2.2.2.2.2.2.2.2)))]) := by
  obtain ⟨hCS, hCT, hgt, hRT⟩ := id hCI
  have hAI := hCS.1
  have hnT := hCS.2.1
  have hg := hCS.2.2.1
  have hnL := hCS.2.2.2.1
  have hAg := hCS.2.2.2.2.1
  have hk8 := hCS.2.2.2.2.2.1
  have hT := hCS.2.2.2.2.2.2
  have hO := hCS.O
  have hU := hCS.U
  have hg1 := hz_gen g hg
  have hg2 := hz_Rgen gt hgt
  have hn4 := hAI.1
  refine StdI.mk (cc := b_F_copy) (maxL := 8) (by decide) rfl (Nat.le_of_ble_eq_true rfl) ?_
  intro p e s m below meth c A Z ls hx hb hml hown hts hin hP hK hD hA hS hret hl
  have hown : s.vm.findClass R_F = some m.cls := hown
  have hw : ∀ x ∈ WALL, x.before _ s = true := fun x h => hts x (List.mem_cons_of_mem _ h)
  have hl : lv_has ls 8 [(0, .ref x0), (1, .int x), (2, .int y)] := hl
  refine lv_aload_n hx hb d_F_copy_0 rfl (lv_at hl 0 rfl) ?_
  refine va_get (D := (dC, dI)) (ci := 0) (v := .ref tr) (C := R_F) (T := T_F) (N := 4) hx hb hw in_F hown hK hP 0 rfl rfl 0 (by decide) (hw _ m_83) (fun _ h9 => h9) rfl d_F_copy_1 ?_
  refine lv_iload_n hx hb d_F_copy_4 rfl (lv_at hl 1 rfl) ?_
  refine QryI.callV (ci := 1) (q0 := 0) (c_has l dC dI cI cL cB tr y1 y2 y3 y4 y5 nT x (by omega)) ⟨hx, hb, hml, hown, hw⟩ (fz_cwV 1 hw m_132 m_129 m_130 m_131 m_2 rfl rfl (by decide +kernel) ⟨Nat.le_of_ble_eq_true rfl, Nat.le_of_ble_eq_true rfl⟩) hK hP [1] rfl rfl rfl rfl rfl hl.1 rfl (Nat.le_of_ble_eq_true rfl) d_F_copy_5 ⟨(by (try dsimp only); omega), (by (try dsimp only); omega)⟩ (fun r5 h5 => ?_)
  obtain ⟨b5, hb5, e5, hok5⟩ := h5
  subst e5
  refine lv_if_eq (tgt := 22) hx hb d_F_copy_8 (by decide) (fun c8 => ?_) (fun c8 => ?_)
  · have c8 : b5 = 0 := (nI_eq (by omega) (by omega)).mp (c8.trans nI_0.symm)
    refine lv_iconst (v := -1) hx hb d_F_copy_22 (by decide) ?_
    have eF : (fCopy nT a x y) = (-1, a) := ifc_neg (fun h => absurd (hok5.mpr h.1) (by omega))
    have eg : gF g (aN ((fCopy nT a x y).2)) = g := by rw [eF]; exact gF_same hg hn4 hnL
    have hP : va_P (dC, dI) classes [(x0, .inr (0, [.ref tr, .ref f, .int (nI ck), .long cn])), (tr, .inr (1, [.int (nI nT), .ref y1, .ref y2, .ref y3, .ref y4, .ref y5])), (y1, .inl (cI, hz_R gt, .inl (nf fi))), (y2, .inl (cI, hz_R gt, .inl (nf la))), (y3, .inl (cI, hz_R gt, .inl (nf kc))), (y4, .inl (cI, hz_R gt, .inl (nf vc))), (y5, .inl (cI, hz_R gt, .inl (nf bo))), (f, .inr (2, [.int (nI (aN (fCopy nT a x y).2)), .ref a1, .ref a2, .ref a3, .ref a4, .ref a5, .ref a6])), (a1, .inl (cI, hz_L (gF g (aN ((fCopy nT a x y).2))), .inl (nf ow))), (a2, .inl (cL, hz_L (gF g (aN ((fCopy nT a x y).2))), .inr (.inl ky))), (a3, .inl (cB, hz_L (gF g (aN ((fCopy nT a x y).2))), .inl (nf kd))), (a4, .inl (cL, hz_L (gF g (aN ((fCopy nT a x y).2))), .inr (.inl nu))), (a5, .inl (cI, hz_L (gF g (aN ((fCopy nT a x y).2))), .inl (nf fo))), (a6, .inl (cI, hz_M (gF g (aN ((fCopy nT a x y).2))), .inl (nf sn)))] s.heap := by rw [eg, eF]; exact hP
    have hD : va_D A [(x0, .inr (0, [.ref tr, .ref f, .int (nI ck), .long cn])), (tr, .inr (1, [.int (nI nT), .ref y1, .ref y2, .ref y3, .ref y4, .ref y5])), (y1, .inl (cI, hz_R gt, .inl (nf fi))), (y2, .inl (cI, hz_R gt, .inl (nf la))), (y3, .inl (cI, hz_R gt, .inl (nf kc))), (y4, .inl (cI, hz_R gt, .inl (nf vc))), (y5, .inl (cI, hz_R gt, .inl (nf bo))), (f, .inr (2, [.int (nI (aN (fCopy nT a x y).2)), .ref a1, .ref a2, .ref a3, .ref a4, .ref a5, .ref a6])), (a1, .inl (cI, hz_L (gF g (aN ((fCopy nT a x y).2))), .inl (nf ow))), (a2, .inl (cL, hz_L (gF g (aN ((fCopy nT a x y).2))), .inr (.inl ky))), (a3, .inl (cB, hz_L (gF g (aN ((fCopy nT a x y).2))), .inl (nf kd))), (a4, .inl (cL, hz_L (gF g (aN ((fCopy nT a x y).2))), .inr (.inl nu))), (a5, .inl (cI, hz_L (gF g (aN ((fCopy nT a x y).2))), .inl (nf fo))), (a6, .inl (cI, hz_M (gF g (aN ((fCopy nT a x y).2))), .inl (nf sn)))] := by rw [eg, eF]; exact hD
    refine W.widen (k := 6 * (gF g (aN ((fCopy nT a x y).2)) - g)) (n := Gs (gF g (aN ((fCopy nT a x y).2))) - Gs g) (by omega) (by omega) ?_
    have hpost : (-1) = (fCopy nT a x y).1 ∧ CI nT ((fCopy nT a x y).2) (gF g (aN ((fCopy nT a x y).2))) gt ow ky kd nu fo sn fi la kc vc bo := ⟨by rw [eF], by rw [eg, eF]; exact hCI⟩
    exact hret (-1) (a1, a2, a3, a4, a5, a6, fi, la, kc, vc, bo, ow, ky, kd, nu, fo, sn) _ _ 23 ls hpost hP hD hS d_F_copy_23
  · have c8 : ¬ b5 = 0 := fun h => c8 (((nI_eq (by omega) (by omega)).mpr h).trans nI_0)
    refine lv_aload_n hx hb d_F_copy_11 rfl (lv_at hl 0 rfl) ?_
    refine va_get (D := (dC, dI)) (ci := 0) (v := .ref tr) (C := R_F) (T := T_F) (N := 4) hx hb hw in_F hown hK hP 0 rfl rfl 0 (by decide) (hw _ m_83) (fun _ h9 => h9) rfl d_F_copy_12 ?_
    refine lv_iload_n hx hb d_F_copy_15 rfl (lv_at hl 2 rfl) ?_
    refine QryI.callV (ci := 1) (q0 := 0) (c_has l dC dI cI cL cB tr y1 y2 y3 y4 y5 nT y (by omega)) ⟨hx, hb, hml, hown, hw⟩ (fz_cwV 1 hw m_132 m_129 m_130 m_131 m_2 rfl rfl (by decide +kernel) ⟨Nat.le_of_ble_eq_true rfl, Nat.le_of_ble_eq_true rfl⟩) hK hP [1] rfl rfl rfl rfl rfl hl.1 rfl (Nat.le_of_ble_eq_true rfl) d_F_copy_16 ⟨(by (try dsimp only); omega), (by (try dsimp only); omega)⟩ (fun r16 h16 => ?_)
    obtain ⟨b16, hb16, e16, hok16⟩ := h16
    subst e16
    refine lv_if_ne (tgt := 24) hx hb d_F_copy_19 (by decide) (fun c19 => ?_) (fun c19 => ?_)
    · have c19 : ¬ b16 = 0 := fun h => c19 (((nI_eq (by omega) (by omega)).mpr h).trans nI_0)
      obtain ⟨to, hto1, hto2, exto⟩ := hok5.mp (by omega)
      rw [exto] at hl
      obtain ⟨fr, hfr1, hfr2, exfr⟩ := hok16.mp (by omega)
      rw [exfr] at hl
      have eG : (fCopy nT a x y) = fCopyG a to fr := (by unfold fCopy; rw [ifc_pos ⟨hok5.mp (by omega), hok16.mp (by omega)⟩, exto, exfr, tN_nI (by omega), tN_nI (by omega)])
      have hmz := mcA_le a to fr (aN a)
      have hmv := mcA_cV a to fr (aN a)
      have hvv := (hCT.2 fr hfr1 hfr2).2.2.2.1
      have hvn : vc fr ≤ aN a := by rw [hvv]; exact cnt_le _ _
      have hvm : mcA a to fr (aN a) ≤ vc fr := by rw [hvv]; exact hmv
      have hkc := (hCT.2 fr hfr1 hfr2).2.2.1
      have hkn : kc fr ≤ aN a := by rw [hkc]; exact cnt_le _ _
      have join_62 : aN a + mcA a to fr (aN a) ≤ 40000 → ∀ (H : Heap) (locs : List Loc), va_P (dC, dI) classes [(x0, .inr (0, [.ref tr, .ref f, .int (nI ck), .long cn])), (tr, .inr (1, [.int (nI nT), .ref y1, .ref y2, .ref y3, .ref y4, .ref y5])), (y1, .inl (cI, hz_R gt, .inl (nf fi))), (y2, .inl (cI, hz_R gt, .inl (nf la))), (y3, .inl (cI, hz_R gt, .inl (nf kc))), (y4, .inl (cI, hz_R gt, .inl (nf vc))), (y5, .inl (cI, hz_R gt, .inl (nf bo))), (f, .inr (2, [.int (nI (aN a)), .ref a1, .ref a2, .ref a3, .ref a4, .ref a5, .ref a6])), (a1, .inl (cI, hz_L g, .inl (nf ow))), (a2, .inl (cL, hz_L g, .inr (.inl ky))), (a3, .inl (cB, hz_L g, .inl (nf kd))), (a4, .inl (cL, hz_L g, .inr (.inl nu))), (a5, .inl (cI, hz_L g, .inl (nf fo))), (a6, .inl (cI, hz_M g, .inl (nf sn)))] H → va_D A [(x0, .inr (0, [.ref tr, .ref f, .int (nI ck), .long cn])), (tr, .inr (1, [.int (nI nT), .ref y1, .ref y2, .ref y3, .ref y4, .ref y5])), (y1, .inl (cI, hz_R gt, .inl (nf fi))), (y2, .inl (cI, hz_R gt, .inl (nf la))), (y3, .inl (cI, hz_R gt, .inl (nf kc))), (y4, .inl (cI, hz_R gt, .inl (nf vc))), (y5, .inl (cI, hz_R gt, .inl (nf bo))), (f, .inr (2, [.int (nI (aN a)), .ref a1, .ref a2, .ref a3, .ref a4, .ref a5, .ref a6])), (a1, .inl (cI, hz_L g, .inl (nf ow))), (a2, .inl (cL, hz_L g, .inr (.inl ky))), (a3, .inl (cB, hz_L g, .inl (nf kd))), (a4, .inl (cL, hz_L g, .inr (.inl nu))), (a5, .inl (cI, hz_L g, .inl (nf fo))), (a6, .inl (cI, hz_M g, .inl (nf sn)))] → va_S A s.heap H locs → ∀ (ls : Array Slot), lv_has ls 8 [(0, .ref x0), (1, .int (nI to)), (2, .int (nI fr))] → W p l e { frames := 6, cells := (6 * (gF g (aN ((fCopy nT a x y).2)) - g)), slots := (Gs (gF g (aN ((fCopy nT a x y).2))) - Gs g), locals := 155 } s m [.ref x0, .int x, .int y].toArray below meth c H locs 0 0 Z (F0 m 62 ls []) := by
        intro  hfit H locs hP hD hS ls hl
        have eF : (fCopy nT a x y) = (nI (mcA a to fr (aN a)), cpA a to fr (aN a)) := eG.trans (if_neg (by omega))
        have hNe : aN (cpA a to fr (aN a)) = aN a + mcA a to fr (aN a) := (cpA_all (fr := fr) hAI hnT hto1 hto2 (aN a) (Nat.le_refl _) hfit).2.1
        refine lv_iconst (v := nI 0) hx hb d_F_copy_62 (by decide) ?_
        refine lv_istore_n (lv' := [(3, .int (nI 0)), (0, .ref x0), (1, .int (nI to)), (2, .int (nI fr))]) hx hb d_F_copy_63 rfl hl (by decide) rfl (fun ls hl => ?_)
        refine lv_aload_n hx hb d_F_copy_64 rfl (lv_at hl 1 rfl) ?_
        refine va_get (D := (dC, dI)) (ci := 0) (v := .ref tr) (C := R_F) (T := T_F) (N := 4) hx hb hw in_F hown hK hP 0 rfl rfl 0 (by decide) (hw _ m_83) (fun _ h9 => h9) rfl d_F_copy_65 ?_
        refine va_get (D := (dC, dI)) (ci := 1) (v := .ref y1) (C := R_T) (T := T_T) (N := 6) hx hb hw in_T hown hK hP 1 rfl rfl 1 (by decide) (hw _ m_25) (fun _ h9 => h9) rfl d_F_copy_68 ?_
        refine lv_iload_n hx hb d_F_copy_71 rfl (lv_at hl 3 rfl) ?_
        refine fz_iald hx hb hK hP 2 0 rfl rfl (j := fr) (by omega) (by omega) d_F_copy_72 ?_
        refine lv_istore (lv' := [(4, .int (nI (fi fr))), (3, .int (nI 0)), (0, .ref x0), (1, .int (nI to)), (2, .int (nI fr))]) hx hb d_F_copy_73 hl (by decide) rfl (fun ls hl => ?_)
        refine lv_aload_n hx hb d_F_copy_75 rfl (lv_at hl 2 rfl) ?_
        refine va_get (D := (dC, dI)) (ci := 0) (v := .ref tr) (C := R_F) (T := T_F) (N := 4) hx hb hw in_F hown hK hP 0 rfl rfl 0 (by decide) (hw _ m_83) (fun _ h9 => h9) rfl d_F_copy_76 ?_
        refine va_get (D := (dC, dI)) (ci := 1) (v := .ref y3) (C := R_T) (T := T_T) (N := 6) hx hb hw in_T hown hK hP 1 rfl rfl 3 (by decide) (hw _ m_29) (fun _ h9 => h9) rfl d_F_copy_79 ?_
        refine lv_iload_n hx hb d_F_copy_82 rfl (lv_at hl 4 rfl) ?_
        refine fz_iald hx hb hK hP 4 0 rfl rfl (j := fr) (by omega) (by omega) d_F_copy_83 ?_
        refine lv_istore (lv' := [(5, .int (nI (kc fr))), (4, .int (nI (fi fr))), (3, .int (nI 0)), (0, .ref x0), (1, .int (nI to)), (2, .int (nI fr))]) hx hb d_F_copy_84 hl (by decide) rfl (fun ls hl => ?_)
        refine lv_iconst (v := nI 0) hx hb d_F_copy_86 (by decide) ?_
        refine lv_istore (lv' := [(6, .int (nI 0)), (5, .int (nI (kc fr))), (4, .int (nI (fi fr))), (3, .int (nI 0)), (0, .ref x0), (1, .int (nI to)), (2, .int (nI fr))]) hx hb d_F_copy_87 hl (by decide) rfl (fun ls hl => ?_)
        have loop_89 : ∀ (fuel : Nat) (fld : Nat) (sen : Nat) (cm : Nat) (q : Nat) (p1 : Nat) (p2 : Nat) (p3 : Nat) (p4 : Nat) (p5 : Nat) (p6 : Nat) (fiq : Nat → Nat) (laq : Nat → Nat) (kcq : Nat → Nat) (vcq : Nat → Nat) (boq : Nat → Nat) (owq : Nat → Nat) (kyq : Nat → Int64) (kdq : Nat → Nat) (nuq : Nat → Int64) (foq : Nat → Nat) (snq : Nat → Nat), ch_N (aO a) fr (aN a) q fld → q ≤ aN a → sen ≤ cQ a fr q → cm = mcA a to fr q → CI nT (cpA a to fr q) (gF g (aN (cpA a to fr q))) gt owq kyq kdq nuq foq snq fiq laq kcq vcq boq → aN a - q < fuel → ∀ (H : Heap) (locs : List Loc), va_P (dC, dI) classes [(x0, .inr (0, [.ref tr, .ref f, .int (nI ck), .long cn])), (tr, .inr (1, [.int (nI nT), .ref y1, .ref y2, .ref y3, .ref y4, .ref y5])), (y1, .inl (cI, hz_R gt, .inl (nf fiq))), (y2, .inl (cI, hz_R gt, .inl (nf laq))), (y3, .inl (cI, hz_R gt, .inl (nf kcq))), (y4, .inl (cI, hz_R gt, .inl (nf vcq))), (y5, .inl (cI, hz_R gt, .inl (nf boq))), (f, .inr (2, [.int (nI (aN (cpA a to fr q))), .ref p1, .ref p2, .ref p3, .ref p4, .ref p5, .ref p6])), (p1, .inl (cI, hz_L (gF g (aN (cpA a to fr q))), .inl (nf owq))), (p2, .inl (cL, hz_L (gF g (aN (cpA a to fr q))), .inr (.inl kyq))), (p3, .inl (cB, hz_L (gF g (aN (cpA a to fr q))), .inl (nf kdq))), (p4, .inl (cL, hz_L (gF g (aN (cpA a to fr q))), .inr (.inl nuq))), (p5, .inl (cI, hz_L (gF g (aN (cpA a to fr q))), .inl (nf foq))), (p6, .inl (cI, hz_M (gF g (aN (cpA a to fr q))), .inl (nf snq)))] H → va_D A [(x0, .inr (0, [.ref tr, .ref f, .int (nI ck), .long cn])), (tr, .inr (1, [.int (nI nT), .ref y1, .ref y2, .ref y3, .ref y4, .ref y5])), (y1, .inl (cI, hz_R gt, .inl (nf fiq))), (y2, .inl (cI, hz_R gt, .inl (nf laq))), (y3, .inl (cI, hz_R gt, .inl (nf kcq))), (y4, .inl (cI, hz_R gt, .inl (nf vcq))), (y5, .inl (cI, hz_R gt, .inl (nf boq))), (f, .inr (2, [.int (nI (aN (cpA a to fr q))), .ref p1, .ref p2, .ref p3, .ref p4, .ref p5, .ref p6])), (p1, .inl (cI, hz_L (gF g (aN (cpA a to fr q))), .inl (nf owq))), (p2, .inl (cL, hz_L (gF g (aN (cpA a to fr q))), .inr (.inl kyq))), (p3, .inl (cB, hz_L (gF g (aN (cpA a to fr q))), .inl (nf kdq))), (p4, .inl (cL, hz_L (gF g (aN (cpA a to fr q))), .inr (.inl nuq))), (p5, .inl (cI, hz_L (gF g (aN (cpA a to fr q))), .inl (nf foq))), (p6, .inl (cI, hz_M (gF g (aN (cpA a to fr q))), .inl (nf snq)))] → va_S A s.heap H locs → ∀ (ls : Array Slot), lv_has ls 8 [(0, .ref x0), (1, .int (nI to)), (2, .int (nI fr)), (3, .int (nI cm)), (4, .int (nI fld)), (5, .int (nI (kc fr))), (6, .int (nI sen))] → W p l e { frames := 6, cells := (6 * (gF g (aN ((fCopy nT a x y).2)) - g)), slots := (Gs (gF g (aN ((fCopy nT a x y).2))) - Gs g), locals := 155 } s m [.ref x0, .int x, .int y].toArray below meth c H locs (6 * (gF g (aN (cpA a to fr q)) - g)) (Gs (gF g (aN (cpA a to fr q))) - Gs g) Z (F0 m 89 ls []) := by
          intro fuel
          induction fuel with
          | zero => intro fld sen cm q p1 p2 p3 p4 p5 p6 fiq laq kcq vcq boq owq kyq kdq nuq foq snq hfl hqn hse hcm hC hfuel; exact absurd hfuel (Nat.not_lt_zero _)
          | succ fuel ih =>
            intro fld sen cm q p1 p2 p3 p4 p5 p6 fiq laq kcq vcq boq owq kyq kdq nuq foq snq hfl hqn hse hcm hC hfuel H locs hP hD hS ls hl
            have hfn := hfl.le
            have hcq := cQ_le (t := fr) hqn
            have hmq := mcA_mono a to fr hqn
            have hI := cpA_all (fr := fr) hAI hnT hto1 hto2 q hqn (by omega)
            have hNq : aN (cpA a to fr q) = aN a + mcA a to fr q := hI.2.1
            have hGq := gF_spec (g := g) (n := aN (cpA a to fr q)) hg (by omega)
            have hGz := hz_gen _ hGq.2.1
            have hGs := Gs_mono hGq.1
            have hmn := mcA_le a to fr q
            have hC8 := hC.1.2.2.2.2.2.1
            have hCg := hC.1.2.2.2.2.1
            have hCO := hC.1.O
            refine lv_iload hx hb d_F_copy_89 (lv_at hl 6 rfl) ?_
            refine lv_iload hx hb d_F_copy_91 (lv_at hl 5 rfl) ?_
            refine lv_icmp_ge (tgt := 175) hx hb d_F_copy_93 (by decide) (fun c93 => ?_) (fun c93 => ?_)
            · have c93 : kc fr ≤ sen := by exact (nI_leI (by omega) (by omega)).mp c93
              refine lv_iload_n hx hb d_F_copy_175 rfl (lv_at hl 3 rfl) ?_
              have hf0 : fld = 0 := by
                by_cases z : fld = 0
                · exact z
                · have := cQ_next hfl z; omega
              have hsk := cpA_skip (a := a) (to := to) (fr := fr) (p := aN a) hqn (by
                rcases hfl with ⟨_, w⟩ | ⟨w, _⟩
                · exact w
                · omega)
              have hP : va_P (dC, dI) classes [(x0, .inr (0, [.ref tr, .ref f, .int (nI ck), .long cn])), (tr, .inr (1, [.int (nI nT), .ref y1, .ref y2, .ref y3, .ref y4, .ref y5])), (y1, .inl (cI, hz_R gt, .inl (nf fiq))), (y2, .inl (cI, hz_R gt, .inl (nf laq))), (y3, .inl (cI, hz_R gt, .inl (nf kcq))), (y4, .inl (cI, hz_R gt, .inl (nf vcq))), (y5, .inl (cI, hz_R gt, .inl (nf boq))), (f, .inr (2, [.int (nI (aN (fCopy nT a x y).2)), .ref p1, .ref p2, .ref p3, .ref p4, .ref p5, .ref p6])), (p1, .inl (cI, hz_L (gF g (aN ((fCopy nT a x y).2))), .inl (nf owq))), (p2, .inl (cL, hz_L (gF g (aN ((fCopy nT a x y).2))), .inr (.inl kyq))), (p3, .inl (cB, hz_L (gF g (aN ((fCopy nT a x y).2))), .inl (nf kdq))), (p4, .inl (cL, hz_L (gF g (aN ((fCopy nT a x y).2))), .inr (.inl nuq))), (p5, .inl (cI, hz_L (gF g (aN ((fCopy nT a x y).2))), .inl (nf foq))), (p6, .inl (cI, hz_M (gF g (aN ((fCopy nT a x y).2))), .inl (nf snq)))] H := by rw [eF]; dsimp only; rw [hsk.1]; exact hP
              have hD : va_D A [(x0, .inr (0, [.ref tr, .ref f, .int (nI ck), .long cn])), (tr, .inr (1, [.int (nI nT), .ref y1, .ref y2, .ref y3, .ref y4, .ref y5])), (y1, .inl (cI, hz_R gt, .inl (nf fiq))), (y2, .inl (cI, hz_R gt, .inl (nf laq))), (y3, .inl (cI, hz_R gt, .inl (nf kcq))), (y4, .inl (cI, hz_R gt, .inl (nf vcq))), (y5, .inl (cI, hz_R gt, .inl (nf boq))), (f, .inr (2, [.int (nI (aN (fCopy nT a x y).2)), .ref p1, .ref p2, .ref p3, .ref p4, .ref p5, .ref p6])), (p1, .inl (cI, hz_L (gF g (aN ((fCopy nT a x y).2))), .inl (nf owq))), (p2, .inl (cL, hz_L (gF g (aN ((fCopy nT a x y).2))), .inr (.inl kyq))), (p3, .inl (cB, hz_L (gF g (aN ((fCopy nT a x y).2))), .inl (nf kdq))), (p4, .inl (cL, hz_L (gF g (aN ((fCopy nT a x y).2))), .inr (.inl nuq))), (p5, .inl (cI, hz_L (gF g (aN ((fCopy nT a x y).2))), .inl (nf foq))), (p6, .inl (cI, hz_M (gF g (aN ((fCopy nT a x y).2))), .inl (nf snq)))] := by rw [eF]; dsimp only; rw [hsk.1]; exact hD
              refine W.widen (k := 6 * (gF g (aN ((fCopy nT a x y).2)) - g)) (n := Gs (gF g (aN ((fCopy nT a x y).2))) - Gs g) (by rw [eF]; dsimp only; rw [hsk.1]; exact Nat.le_refl _) (by rw [eF]; dsimp only; rw [hsk.1]; exact Nat.le_refl _) ?_
              have hpost : (nI cm) = (fCopy nT a x y).1 ∧ CI nT ((fCopy nT a x y).2) (gF g (aN ((fCopy nT a x y).2))) gt owq kyq kdq nuq foq snq fiq laq kcq vcq boq := ⟨by rw [eF, hcm, hsk.2], by rw [eF]; dsimp only; rw [hsk.1]; exact hC⟩
              exact hret (nI cm) (p1, p2, p3, p4, p5, p6, fiq, laq, kcq, vcq, boq, owq, kyq, kdq, nuq, foq, snq) _ _ 176 ls hpost hP hD hS d_F_copy_176
            · have c93 : ¬ kc fr ≤ sen := fun h => c93 (by exact (nI_leI (by omega) (by omega)).mpr h)
              refine lv_iload hx hb d_F_copy_96 (lv_at hl 4 rfl) ?_
              refine lv_if_eq (tgt := 175) hx hb d_F_copy_98 (by decide) (fun c98 => ?_) (fun c98 => ?_)
              · have c98 : fld = 0 := (nI_eq (by omega) (by omega)).mp (c98.trans nI_0.symm)
                refine lv_iload_n hx hb d_F_copy_175 rfl (lv_at hl 3 rfl) ?_
                have hf0 : fld = 0 := c98
                have hsk := cpA_skip (a := a) (to := to) (fr := fr) (p := aN a) hqn (by
                  rcases hfl with ⟨_, w⟩ | ⟨w, _⟩
                  · exact w
                  · omega)
                have hP : va_P (dC, dI) classes [(x0, .inr (0, [.ref tr, .ref f, .int (nI ck), .long cn])), (tr, .inr (1, [.int (nI nT), .ref y1, .ref y2, .ref y3, .ref y4, .ref y5])), (y1, .inl (cI, hz_R gt, .inl (nf fiq))), (y2, .inl (cI, hz_R gt, .inl (nf laq))), (y3, .inl (cI, hz_R gt, .inl (nf kcq))), (y4, .inl (cI, hz_R gt, .inl (nf vcq))), (y5, .inl (cI, hz_R gt, .inl (nf boq))), (f, .inr (2, [.int (nI (aN (fCopy nT a x y).2)), .ref p1, .ref p2, .ref p3, .ref p4, .ref p5, .ref p6])), (p1, .inl (cI, hz_L (gF g (aN ((fCopy nT a x y).2))), .inl (nf owq))), (p2, .inl (cL, hz_L (gF g (aN ((fCopy nT a x y).2))), .inr (.inl kyq))), (p3, .inl (cB, hz_L (gF g (aN ((fCopy nT a x y).2))), .inl (nf kdq))), (p4, .inl (cL, hz_L (gF g (aN ((fCopy nT a x y).2))), .inr (.inl nuq))), (p5, .inl (cI, hz_L (gF g (aN ((fCopy nT a x y).2))), .inl (nf foq))), (p6, .inl (cI, hz_M (gF g (aN ((fCopy nT a x y).2))), .inl (nf snq)))] H := by rw [eF]; dsimp only; rw [hsk.1]; exact hP
                have hD : va_D A [(x0, .inr (0, [.ref tr, .ref f, .int (nI ck), .long cn])), (tr, .inr (1, [.int (nI nT), .ref y1, .ref y2, .ref y3, .ref y4, .ref y5])), (y1, .inl (cI, hz_R gt, .inl (nf fiq))), (y2, .inl (cI, hz_R gt, .inl (nf laq))), (y3, .inl (cI, hz_R gt, .inl (nf kcq))), (y4, .inl (cI, hz_R gt, .inl (nf vcq))), (y5, .inl (cI, hz_R gt, .inl (nf boq))), (f, .inr (2, [.int (nI (aN (fCopy nT a x y).2)), .ref p1, .ref p2, .ref p3, .ref p4, .ref p5, .ref p6])), (p1, .inl (cI, hz_L (gF g (aN ((fCopy nT a x y).2))), .inl (nf owq))), (p2, .inl (cL, hz_L (gF g (aN ((fCopy nT a x y).2))), .inr (.inl kyq))), (p3, .inl (cB, hz_L (gF g (aN ((fCopy nT a x y).2))), .inl (nf kdq))), (p4, .inl (cL, hz_L (gF g (aN ((fCopy nT a x y).2))), .inr (.inl nuq))), (p5, .inl (cI, hz_L (gF g (aN ((fCopy nT a x y).2))), .inl (nf foq))), (p6, .inl (cI, hz_M (gF g (aN ((fCopy nT a x y).2))), .inl (nf snq)))] := by rw [eF]; dsimp only; rw [hsk.1]; exact hD
                refine W.widen (k := 6 * (gF g (aN ((fCopy nT a x y).2)) - g)) (n := Gs (gF g (aN ((fCopy nT a x y).2))) - Gs g) (by rw [eF]; dsimp only; rw [hsk.1]; exact Nat.le_refl _) (by rw [eF]; dsimp only; rw [hsk.1]; exact Nat.le_refl _) ?_
                have hpost : (nI cm) = (fCopy nT a x y).1 ∧ CI nT ((fCopy nT a x y).2) (gF g (aN ((fCopy nT a x y).2))) gt owq kyq kdq nuq foq snq fiq laq kcq vcq boq := ⟨by rw [eF, hcm, hsk.2], by rw [eF]; dsimp only; rw [hsk.1]; exact hC⟩
                exact hret (nI cm) (p1, p2, p3, p4, p5, p6, fiq, laq, kcq, vcq, boq, owq, kyq, kdq, nuq, foq, snq) _ _ 176 ls hpost hP hD hS d_F_copy_176
              · have c98 : ¬ fld = 0 := fun h => c98 (((nI_eq (by omega) (by omega)).mpr h).trans nI_0)
                have hff := hfl.facts c98
                have hcn := cQ_next hfl c98
                have hsk := cpA_skip (a := a) (to := to) (fr := fr) (p := fld - 1) (q := q) (by omega) (by
                  rcases hfl with ⟨w, _⟩ | ⟨_, _, _, w⟩
                  · exact absurd w c98
                  · exact fun m m1 m2 => w m m1 (by omega))
                have hDf : kdq fld = aD a fld := (hCg fld (by omega)).2.2.1.trans (hI.2.2.2.1 fld (by omega) hfn hff.2.2).1
                have hUf : nuq fld = aU a fld := (hCg fld (by omega)).2.2.2.trans (hI.2.2.2.1 fld (by omega) hfn hff.2.2).2
                have hOf : owq fld = aO a fld := (hCg fld (by omega)).1.trans (hI.2.2.1 fld hfn).1
                have hKf : kyq fld = aK a fld := (hCg fld (by omega)).2.1.trans (hI.2.2.1 fld hfn).2
                have h7f := hAI.2.2.1 fld
                have hstep : cpA a to fr fld = if aO a fld / 8 = fr ∧ aD a fld ≠ 0 then giveA (cpA a to fr q) (to * 8 + aO a fld % 8) (aK a fld) (aD a fld) (aU a fld) else cpA a to fr q := by
                  rw [← hsk.1]
                  obtain ⟨z, ez⟩ : ∃ z, fld = z + 1 := ⟨fld - 1, by omega⟩
                  rw [ez]; rfl
                have hmf := mcA_mono a to fr hfn
                have hIf := cpA_all (fr := fr) hAI hnT hto1 hto2 fld hfn (by omega)
                have hNf : aN (cpA a to fr fld) = aN a + mcA a to fr fld := hIf.2.1
                have hmm := mcA_mono a to fr (j := q) (n := fld) (by omega)
                have hGm := gF_mono (g := g) hg (show aN (cpA a to fr fld) ≤ 40000 by omega) (show aN (cpA a to fr q) ≤ aN (cpA a to fr fld) by omega)
                have hGe := gF_mono (g := g) hg (show aN (cpA a to fr (aN a)) ≤ 40000 by omega) (show aN (cpA a to fr fld) ≤ aN (cpA a to fr (aN a)) by omega)
                have hGsm := Gs_mono hGm
                have hGse := Gs_mono hGe
                have hgo := hC.2.1.1 fld (by omega) (by omega)
                refine lv_aload_n hx hb d_F_copy_101 rfl (lv_at hl 0 rfl) ?_
                refine va_get (D := (dC, dI)) (ci := 0) (v := .ref f) (C := R_F) (T := T_F) (N := 4) hx hb hw in_F hown hK hP 0 rfl rfl 1 (by decide) (hw _ m_84) (fun _ h9 => h9) rfl d_F_copy_102 ?_
                refine va_get (D := (dC, dI)) (ci := 2) (v := .ref p3) (C := R_S) (T := T_S) (N := 7) hx hb hw in_S hown hK hP 7 rfl rfl 3 (by decide) (hw _ m_60) (fun _ h9 => h9) rfl d_F_copy_105 ?_
                refine lv_iload hx hb d_F_copy_108 (lv_at hl 4 rfl) ?_
                refine fz_bald hx hb hK hP 10 2 rfl rfl (j := fld) (by omega) (by omega) d_F_copy_110 ?_
                refine fz_eqi (y := nI (aD a fld)) (by rw [hDf]) ?_
                refine lv_istore (lv' := [(7, .int (nI (aD a fld))), (0, .ref x0), (1, .int (nI to)), (2, .int (nI fr)), (3, .int (nI cm)), (4, .int (nI fld)), (5, .int (nI (kc fr))), (6, .int (nI sen))]) hx hb d_F_copy_111 hl (by decide) rfl (fun ls hl => ?_)
                refine lv_iload hx hb d_F_copy_113 (lv_at hl 0 rfl) ?_
                refine lv_if_eq (tgt := 157) hx hb d_F_copy_115 (by decide) (fun c115 => ?_) (fun c115 => ?_)
                · have c115 : aD a fld = 0 := (nI_eq (by omega) (by omega)).mp (c115.trans nI_0.symm)
                  have hgb : ch_N (aO a) fr (aN a) fld (foq fld) := by
                    have z := hC.2.1.1 fld (by omega) (by omega)
                    rw [(hI.2.2.1 fld hfn).1, hff.2.2] at z
                    exact z.back (by omega) (fun i hi => (hI.2.2.1 i hi).1) hI.2.2.2.2.1
                  have hfo9 := hgb.le
                  refine lv_aload_n hx hb d_F_copy_157 rfl (lv_at hl 1 rfl) ?_
                  refine va_get (D := (dC, dI)) (ci := 0) (v := .ref f) (C := R_F) (T := T_F) (N := 4) hx hb hw in_F hown hK hP 0 rfl rfl 1 (by decide) (hw _ m_84) (fun _ h9 => h9) rfl d_F_copy_158 ?_
                  refine va_get (D := (dC, dI)) (ci := 2) (v := .ref p5) (C := R_S) (T := T_S) (N := 7) hx hb hw in_S hown hK hP 7 rfl rfl 5 (by decide) (hw _ m_64) (fun _ h9 => h9) rfl d_F_copy_161 ?_
                  refine lv_iload hx hb d_F_copy_164 (lv_at hl 5 rfl) ?_
                  refine fz_iald hx hb hK hP 12 0 rfl rfl (j := fld) (by omega) (by omega) d_F_copy_166 ?_
                  refine lv_istore (lv' := [(4, .int (nI (foq fld))), (7, .int (nI (aD a fld))), (0, .ref x0), (1, .int (nI to)), (2, .int (nI fr)), (3, .int (nI cm)), (5, .int (nI (kc fr))), (6, .int (nI sen))]) hx hb d_F_copy_167 hl (by decide) rfl (fun ls hl => ?_)
                  refine lv_iinc (v := nI (sen + 1)) (lv' := [(6, .int (nI (sen + 1))), (4, .int (nI (foq fld))), (7, .int (nI (aD a fld))), (0, .ref x0), (1, .int (nI to)), (2, .int (nI fr)), (3, .int (nI cm)), (5, .int (nI (kc fr)))]) hx hb d_F_copy_169 hl (k := 7) rfl (fz_inc sen) (by decide) rfl (fun ls hl => ?_)
                  refine lv_goto (tgt := 89) hx hb d_F_copy_172 (by decide) ?_
                  have eS : cpA a to fr fld = cpA a to fr q := by rw [hstep, if_neg (fun h => h.2 c115)]
                  have hcm2 : cm = mcA a to fr fld := by rw [eS] at hNf; omega
                  have hP : va_P (dC, dI) classes [(x0, .inr (0, [.ref tr, .ref f, .int (nI ck), .long cn])), (tr, .inr (1, [.int (nI nT), .ref y1, .ref y2, .ref y3, .ref y4, .ref y5])), (y1, .inl (cI, hz_R gt, .inl (nf fiq))), (y2, .inl (cI, hz_R gt, .inl (nf laq))), (y3, .inl (cI, hz_R gt, .inl (nf kcq))), (y4, .inl (cI, hz_R gt, .inl (nf vcq))), (y5, .inl (cI, hz_R gt, .inl (nf boq))), (f, .inr (2, [.int (nI (aN (cpA a to fr fld))), .ref p1, .ref p2, .ref p3, .ref p4, .ref p5, .ref p6])), (p1, .inl (cI, hz_L (gF g (aN (cpA a to fr fld))), .inl (nf owq))), (p2, .inl (cL, hz_L (gF g (aN (cpA a to fr fld))), .inr (.inl kyq))), (p3, .inl (cB, hz_L (gF g (aN (cpA a to fr fld))), .inl (nf kdq))), (p4, .inl (cL, hz_L (gF g (aN (cpA a to fr fld))), .inr (.inl nuq))), (p5, .inl (cI, hz_L (gF g (aN (cpA a to fr fld))), .inl (nf foq))), (p6, .inl (cI, hz_M (gF g (aN (cpA a to fr fld))), .inl (nf snq)))] H := by rw [eS]; exact hP
                  have hD : va_D A [(x0, .inr (0, [.ref tr, .ref f, .int (nI ck), .long cn])), (tr, .inr (1, [.int (nI nT), .ref y1, .ref y2, .ref y3, .ref y4, .ref y5])), (y1, .inl (cI, hz_R gt, .inl (nf fiq))), (y2, .inl (cI, hz_R gt, .inl (nf laq))), (y3, .inl (cI, hz_R gt, .inl (nf kcq))), (y4, .inl (cI, hz_R gt, .inl (nf vcq))), (y5, .inl (cI, hz_R gt, .inl (nf boq))), (f, .inr (2, [.int (nI (aN (cpA a to fr fld))), .ref p1, .ref p2, .ref p3, .ref p4, .ref p5, .ref p6])), (p1, .inl (cI, hz_L (gF g (aN (cpA a to fr fld))), .inl (nf owq))), (p2, .inl (cL, hz_L (gF g (aN (cpA a to fr fld))), .inr (.inl kyq))), (p3, .inl (cB, hz_L (gF g (aN (cpA a to fr fld))), .inl (nf kdq))), (p4, .inl (cL, hz_L (gF g (aN (cpA a to fr fld))), .inr (.inl nuq))), (p5, .inl (cI, hz_L (gF g (aN (cpA a to fr fld))), .inl (nf foq))), (p6, .inl (cI, hz_M (gF g (aN (cpA a to fr fld))), .inl (nf snq)))] := by rw [eS]; exact hD
                  refine W.widen (k := 6 * (gF g (aN (cpA a to fr fld)) - g)) (n := Gs (gF g (aN (cpA a to fr fld))) - Gs g) (by rw [eS]; omega) (by rw [eS]; omega) ?_
                  exact ih (foq fld) (sen + 1) cm fld p1 p2 p3 p4 p5 p6 fiq laq kcq vcq boq owq kyq kdq nuq foq snq hgb hfn (by omega) hcm2 (by rw [eS]; exact hC) (by omega) _ _ hP hD hS ls (lv_sub hl [3, 4, 5, 6, 1, 7, 0] rfl)
                · have c115 : ¬ aD a fld = 0 := fun h => c115 (((nI_eq (by omega) (by omega)).mpr h).trans nI_0)
                  refine lv_iload_n hx hb d_F_copy_118 rfl (lv_at hl 4 rfl) ?_
                  refine lv_aload_n hx hb d_F_copy_119 rfl (lv_at hl 1 rfl) ?_
                  refine lv_iload_n hx hb d_F_copy_120 rfl (lv_at hl 2 rfl) ?_
                  refine lv_aload_n hx hb d_F_copy_121 rfl (lv_at hl 1 rfl) ?_
                  refine va_get (D := (dC, dI)) (ci := 0) (v := .ref f) (C := R_F) (T := T_F) (N := 4) hx hb hw in_F hown hK hP 0 rfl rfl 1 (by decide) (hw _ m_84) (fun _ h9 => h9) rfl d_F_copy_122 ?_
                  refine lv_iload hx hb d_F_copy_125 (lv_at hl 5 rfl) ?_
                  refine QryI.callV (ci := 2) (q0 := 0) (c_keyKind l dC dI cI cL cB f p1 p2 p3 p4 p5 p6 (aN (cpA a to fr q)) (hz_L (gF g (aN (cpA a to fr q)))) fld owq (by omega) (by omega) (hCO fld (by omega))) ⟨hx, hb, hml, hown, hw⟩ (fz_cwV 1 hw m_207 m_204 m_205 m_206 m_3 rfl rfl (by decide +kernel) ⟨Nat.le_of_ble_eq_true rfl, Nat.le_of_ble_eq_true rfl⟩) hK hP [7, 8] rfl rfl rfl rfl rfl hl.1 rfl (Nat.le_of_ble_eq_true rfl) d_F_copy_127 ⟨(by dsimp only; rw [eF]; dsimp only; omega), (by dsimp only; rw [eF]; dsimp only; omega)⟩ (fun r127 h127 => ?_)
                  rw [hOf] at h127
                  subst h127
                  refine lv_aload_n hx hb d_F_copy_130 rfl (lv_at hl 1 rfl) ?_
                  refine va_get (D := (dC, dI)) (ci := 0) (v := .ref f) (C := R_F) (T := T_F) (N := 4) hx hb hw in_F hown hK hP 0 rfl rfl 1 (by decide) (hw _ m_84) (fun _ h9 => h9) rfl d_F_copy_131 ?_
                  refine va_get (D := (dC, dI)) (ci := 2) (v := .ref p2) (C := R_S) (T := T_S) (N := 7) hx hb hw in_S hown hK hP 7 rfl rfl 2 (by decide) (hw _ m_58) (fun _ h9 => h9) rfl d_F_copy_134 ?_
                  refine lv_iload hx hb d_F_copy_137 (lv_at hl 5 rfl) ?_
                  refine fz_lald hx hb hK hP 9 1 rfl rfl (j := fld) (by omega) (by omega) d_F_copy_139 ?_
                  refine fz_eql (y := aK a fld) hKf ?_
                  refine lv_iload hx hb d_F_copy_140 (lv_at hl 0 rfl) ?_
                  refine lv_aload_n hx hb d_F_copy_142 rfl (lv_at hl 1 rfl) ?_
                  refine va_get (D := (dC, dI)) (ci := 0) (v := .ref f) (C := R_F) (T := T_F) (N := 4) hx hb hw in_F hown hK hP 0 rfl rfl 1 (by decide) (hw _ m_84) (fun _ h9 => h9) rfl d_F_copy_143 ?_
                  refine va_get (D := (dC, dI)) (ci := 2) (v := .ref p4) (C := R_S) (T := T_S) (N := 7) hx hb hw in_S hown hK hP 7 rfl rfl 4 (by decide) (hw _ m_62) (fun _ h9 => h9) rfl d_F_copy_146 ?_
                  refine lv_iload hx hb d_F_copy_149 (lv_at hl 5 rfl) ?_
                  refine fz_lald hx hb hK hP 11 1 rfl rfl (j := fld) (by omega) (by omega) d_F_copy_151 ?_
                  refine fz_eql (y := aU a fld) hUf ?_
                  have eS : cpA a to fr fld = giveA (cpA a to fr q) (to * 8 + aO a fld % 8) (aK a fld) (aD a fld) (aU a fld) := by rw [hstep, if_pos ⟨hff.2.2, c115⟩]
                  have hNg : aN (giveA (cpA a to fr q) (to * 8 + aO a fld % 8) (aK a fld) (aD a fld) (aU a fld)) = aN (cpA a to fr fld) := by rw [eS]
                  have hNc : aN (giveA (cpA a to fr q) (to * 8 + aO a fld % 8) (aK a fld) (aD a fld) (aU a fld)) = aN (cpA a to fr q) + comeA (cpA a to fr q) (to * 8 + aO a fld % 8) (aK a fld) (aD a fld) := giveA_N _ _ _ _ _
                  have eT : gF (gF g (aN (cpA a to fr q))) (aN (giveA (cpA a to fr q) (to * 8 + aO a fld % 8) (aK a fld) (aD a fld) (aU a fld))) = gF g (aN (cpA a to fr fld)) := by rw [hNg]; exact gF_trans hg (by omega) (by omega)
                  refine StdI.callV (ci := 0) (q0 := 0) (wr := []) (c_give l dC dI cI cL cB x0 tr f y1 y2 y3 y4 y5 p1 p2 p3 p4 p5 p6 ck nT (gF g (aN (cpA a to fr q))) gt cn (cpA a to fr q) fiq laq kcq vcq boq owq kyq kdq nuq foq snq to (aO a fld % 8) (aD a fld) (aK a fld) (aU a fld) hC (by omega) (by omega) ((hAI.2.1 fld (by omega) hfn).2.2) (by omega) (by omega) (by omega)) ⟨hx, hb, hml, hown, hw⟩ (fz_cwV 5 hw m_164 m_161 m_163 ms_2 m_1 rfl rfl (by decide +kernel) ⟨Nat.le_of_ble_eq_true rfl, Nat.le_of_ble_eq_true rfl⟩) hK hP hD hS hA [0, 1, 2, 3, 4, 5, 6, 7, 8, 9, 10, 11, 12, 13] [] rfl rfl (by decide) (by decide) (by decide) rfl rfl rfl rfl hl.1 rfl (Nat.le_of_ble_eq_true rfl) d_F_copy_152 ⟨(by dsimp only; rw [eT, eF]; dsimp only; omega), (by dsimp only; rw [eT, eF]; dsimp only; omega)⟩ (fun r152 u152 H locs h152 hP hD hS => ?_)
                  obtain ⟨b1152, b2152, b3152, b4152, b5152, b6152, fi2152, la2152, kc2152, vc2152, bo2152, ow2152, ky2152, kd2152, nu2152, fo2152, sn2152⟩ := u152
                  try dsimp only at h152
                  have hP : va_P (dC, dI) classes [(x0, .inr (0, [.ref tr, .ref f, .int (nI ck), .long cn])), (tr, .inr (1, [.int (nI nT), .ref y1, .ref y2, .ref y3, .ref y4, .ref y5])), (y1, .inl (cI, hz_R gt, .inl (nf fi2152))), (y2, .inl (cI, hz_R gt, .inl (nf la2152))), (y3, .inl (cI, hz_R gt, .inl (nf kc2152))), (y4, .inl (cI, hz_R gt, .inl (nf vc2152))), (y5, .inl (cI, hz_R gt, .inl (nf bo2152))), (f, .inr (2, [.int (nI (aN (giveA (cpA a to fr q) (to * 8 + (aO a fld % 8)) (aK a fld) (aD a fld) (aU a fld)))), .ref b1152, .ref b2152, .ref b3152, .ref b4152, .ref b5152, .ref b6152])), (b1152, .inl (cI, hz_L (gF (gF g (aN (cpA a to fr q))) (aN (giveA (cpA a to fr q) (to * 8 + (aO a fld % 8)) (aK a fld) (aD a fld) (aU a fld)))), .inl (nf ow2152))), (b2152, .inl (cL, hz_L (gF (gF g (aN (cpA a to fr q))) (aN (giveA (cpA a to fr q) (to * 8 + (aO a fld % 8)) (aK a fld) (aD a fld) (aU a fld)))), .inr (.inl ky2152))), (b3152, .inl (cB, hz_L (gF (gF g (aN (cpA a to fr q))) (aN (giveA (cpA a to fr q) (to * 8 + (aO a fld % 8)) (aK a fld) (aD a fld) (aU a fld)))), .inl (nf kd2152))), (b4152, .inl (cL, hz_L (gF (gF g (aN (cpA a to fr q))) (aN (giveA (cpA a to fr q) (to * 8 + (aO a fld % 8)) (aK a fld) (aD a fld) (aU a fld)))), .inr (.inl nu2152))), (b5152, .inl (cI, hz_L (gF (gF g (aN (cpA a to fr q))) (aN (giveA (cpA a to fr q) (to * 8 + (aO a fld % 8)) (aK a fld) (aD a fld) (aU a fld)))), .inl (nf fo2152))), (b6152, .inl (cI, hz_M (gF (gF g (aN (cpA a to fr q))) (aN (giveA (cpA a to fr q) (to * 8 + (aO a fld % 8)) (aK a fld) (aD a fld) (aU a fld)))), .inl (nf sn2152)))] H := hP
                  have hD : va_D A [(x0, .inr (0, [.ref tr, .ref f, .int (nI ck), .long cn])), (tr, .inr (1, [.int (nI nT), .ref y1, .ref y2, .ref y3, .ref y4, .ref y5])), (y1, .inl (cI, hz_R gt, .inl (nf fi2152))), (y2, .inl (cI, hz_R gt, .inl (nf la2152))), (y3, .inl (cI, hz_R gt, .inl (nf kc2152))), (y4, .inl (cI, hz_R gt, .inl (nf vc2152))), (y5, .inl (cI, hz_R gt, .inl (nf bo2152))), (f, .inr (2, [.int (nI (aN (giveA (cpA a to fr q) (to * 8 + (aO a fld % 8)) (aK a fld) (aD a fld) (aU a fld)))), .ref b1152, .ref b2152, .ref b3152, .ref b4152, .ref b5152, .ref b6152])), (b1152, .inl (cI, hz_L (gF (gF g (aN (cpA a to fr q))) (aN (giveA (cpA a to fr q) (to * 8 + (aO a fld % 8)) (aK a fld) (aD a fld) (aU a fld)))), .inl (nf ow2152))), (b2152, .inl (cL, hz_L (gF (gF g (aN (cpA a to fr q))) (aN (giveA (cpA a to fr q) (to * 8 + (aO a fld % 8)) (aK a fld) (aD a fld) (aU a fld)))), .inr (.inl ky2152))), (b3152, .inl (cB, hz_L (gF (gF g (aN (cpA a to fr q))) (aN (giveA (cpA a to fr q) (to * 8 + (aO a fld % 8)) (aK a fld) (aD a fld) (aU a fld)))), .inl (nf kd2152))), (b4152, .inl (cL, hz_L (gF (gF g (aN (cpA a to fr q))) (aN (giveA (cpA a to fr q) (to * 8 + (aO a fld % 8)) (aK a fld) (aD a fld) (aU a fld)))), .inr (.inl nu2152))), (b5152, .inl (cI, hz_L (gF (gF g (aN (cpA a to fr q))) (aN (giveA (cpA a to fr q) (to * 8 + (aO a fld % 8)) (aK a fld) (aD a fld) (aU a fld)))), .inl (nf fo2152))), (b6152, .inl (cI, hz_M (gF (gF g (aN (cpA a to fr q))) (aN (giveA (cpA a to fr q) (to * 8 + (aO a fld % 8)) (aK a fld) (aD a fld) (aU a fld)))), .inl (nf sn2152)))] := hD
                  refine W.widen (k := (6 * (gF g (aN (cpA a to fr q)) - g)) + (6 * (gF (gF g (aN (cpA a to fr q))) (aN (giveA (cpA a to fr q) (to * 8 + (aO a fld % 8)) (aK a fld) (aD a fld) (aU a fld))) - (gF g (aN (cpA a to fr q)))))) (n := (Gs (gF g (aN (cpA a to fr q))) - Gs g) + (Gs (gF (gF g (aN (cpA a to fr q))) (aN (giveA (cpA a to fr q) (to * 8 + (aO a fld % 8)) (aK a fld) (aD a fld) (aU a fld)))) - Gs (gF g (aN (cpA a to fr q))))) (by omega) (by omega) ?_
                  obtain ⟨e152, h152⟩ := h152
                  subst e152
                  refine lv_iadd hx hb d_F_copy_155 ?_
                  refine fz_eqi (y := nI (cm + (comeA (cpA a to fr q) (to * 8 + aO a fld % 8) (aK a fld) (aD a fld)))) (nI_add cm (comeA (cpA a to fr q) (to * 8 + aO a fld % 8) (aK a fld) (aD a fld))) ?_
                  refine lv_istore_n (lv' := [(3, .int (nI (cm + (comeA (cpA a to fr q) (to * 8 + aO a fld % 8) (aK a fld) (aD a fld))))), (7, .int (nI (aD a fld))), (0, .ref x0), (1, .int (nI to)), (2, .int (nI fr)), (4, .int (nI fld)), (5, .int (nI (kc fr))), (6, .int (nI sen))]) hx hb d_F_copy_156 rfl hl (by decide) rfl (fun ls hl => ?_)
                  have hgb : ch_N (aO a) fr (aN a) fld (fo2152 fld) := by
                    have z := h152.2.1.1 fld (by omega) (by rw [hNg]; omega)
                    rw [← eS] at z
                    rw [(hIf.2.2.1 fld hfn).1, hff.2.2] at z
                    exact z.back (by omega) (fun i hi => (hIf.2.2.1 i hi).1) hIf.2.2.2.2.1
                  have hfo9 := hgb.le
                  have hGz9 := gF_spec (g := g) (n := aN (cpA a to fr fld)) hg (by omega)
                  have hGz8 := hz_gen _ hGz9.2.1
                  rw [eT] at hP hD
                  have hT9 : True := trivial
                  have hP : va_P (dC, dI) classes [(x0, .inr (0, [.ref tr, .ref f, .int (nI ck), .long cn])), (tr, .inr (1, [.int (nI nT), .ref y1, .ref y2, .ref y3, .ref y4, .ref y5])), (y1, .inl (cI, hz_R gt, .inl (nf fi2152))), (y2, .inl (cI, hz_R gt, .inl (nf la2152))), (y3, .inl (cI, hz_R gt, .inl (nf kc2152))), (y4, .inl (cI, hz_R gt, .inl (nf vc2152))), (y5, .inl (cI, hz_R gt, .inl (nf bo2152))), (f, .inr (2, [.int (nI (aN (giveA (cpA a to fr q) (to * 8 + (aO a fld % 8)) (aK a fld) (aD a fld) (aU a fld)))), .ref b1152, .ref b2152, .ref b3152, .ref b4152, .ref b5152, .ref b6152])), (b1152, .inl (cI, hz_L (gF g (aN (cpA a to fr fld))), .inl (nf ow2152))), (b2152, .inl (cL, hz_L (gF g (aN (cpA a to fr fld))), .inr (.inl ky2152))), (b3152, .inl (cB, hz_L (gF g (aN (cpA a to fr fld))), .inl (nf kd2152))), (b4152, .inl (cL, hz_L (gF g (aN (cpA a to fr fld))), .inr (.inl nu2152))), (b5152, .inl (cI, hz_L (gF g (aN (cpA a to fr fld))), .inl (nf fo2152))), (b6152, .inl (cI, hz_M (gF g (aN (cpA a to fr fld))), .inl (nf sn2152)))] H := hP
                  have hD : va_D A [(x0, .inr (0, [.ref tr, .ref f, .int (nI ck), .long cn])), (tr, .inr (1, [.int (nI nT), .ref y1, .ref y2, .ref y3, .ref y4, .ref y5])), (y1, .inl (cI, hz_R gt, .inl (nf fi2152))), (y2, .inl (cI, hz_R gt, .inl (nf la2152))), (y3, .inl (cI, hz_R gt, .inl (nf kc2152))), (y4, .inl (cI, hz_R gt, .inl (nf vc2152))), (y5, .inl (cI, hz_R gt, .inl (nf bo2152))), (f, .inr (2, [.int (nI (aN (giveA (cpA a to fr q) (to * 8 + (aO a fld % 8)) (aK a fld) (aD a fld) (aU a fld)))), .ref b1152, .ref b2152, .ref b3152, .ref b4152, .ref b5152, .ref b6152])), (b1152, .inl (cI, hz_L (gF g (aN (cpA a to fr fld))), .inl (nf ow2152))), (b2152, .inl (cL, hz_L (gF g (aN (cpA a to fr fld))), .inr (.inl ky2152))), (b3152, .inl (cB, hz_L (gF g (aN (cpA a to fr fld))), .inl (nf kd2152))), (b4152, .inl (cL, hz_L (gF g (aN (cpA a to fr fld))), .inr (.inl nu2152))), (b5152, .inl (cI, hz_L (gF g (aN (cpA a to fr fld))), .inl (nf fo2152))), (b6152, .inl (cI, hz_M (gF g (aN (cpA a to fr fld))), .inl (nf sn2152)))] := hD
                  refine lv_aload_n hx hb d_F_copy_157 rfl (lv_at hl 2 rfl) ?_
                  refine va_get (D := (dC, dI)) (ci := 0) (v := .ref f) (C := R_F) (T := T_F) (N := 4) hx hb hw in_F hown hK hP 0 rfl rfl 1 (by decide) (hw _ m_84) (fun _ h9 => h9) rfl d_F_copy_158 ?_
                  refine va_get (D := (dC, dI)) (ci := 2) (v := .ref b5152) (C := R_S) (T := T_S) (N := 7) hx hb hw in_S hown hK hP 7 rfl rfl 5 (by decide) (hw _ m_64) (fun _ h9 => h9) rfl d_F_copy_161 ?_
                  refine lv_iload hx hb d_F_copy_164 (lv_at hl 5 rfl) ?_
                  refine fz_iald hx hb hK hP 12 0 rfl rfl (j := fld) (by omega) (by omega) d_F_copy_166 ?_
                  refine lv_istore (lv' := [(4, .int (nI (fo2152 fld))), (3, .int (nI (cm + (comeA (cpA a to fr q) (to * 8 + aO a fld % 8) (aK a fld) (aD a fld))))), (7, .int (nI (aD a fld))), (0, .ref x0), (1, .int (nI to)), (2, .int (nI fr)), (5, .int (nI (kc fr))), (6, .int (nI sen))]) hx hb d_F_copy_167 hl (by decide) rfl (fun ls hl => ?_)
                  refine lv_iinc (v := nI (sen + 1)) (lv' := [(6, .int (nI (sen + 1))), (4, .int (nI (fo2152 fld))), (3, .int (nI (cm + (comeA (cpA a to fr q) (to * 8 + aO a fld % 8) (aK a fld) (aD a fld))))), (7, .int (nI (aD a fld))), (0, .ref x0), (1, .int (nI to)), (2, .int (nI fr)), (5, .int (nI (kc fr)))]) hx hb d_F_copy_169 hl (k := 7) rfl (fz_inc sen) (by decide) rfl (fun ls hl => ?_)
                  refine lv_goto (tgt := 89) hx hb d_F_copy_172 (by decide) ?_
                  have hcm2 : cm + comeA (cpA a to fr q) (to * 8 + aO a fld % 8) (aK a fld) (aD a fld) = mcA a to fr fld := by omega
                  have hP : va_P (dC, dI) classes [(x0, .inr (0, [.ref tr, .ref f, .int (nI ck), .long cn])), (tr, .inr (1, [.int (nI nT), .ref y1, .ref y2, .ref y3, .ref y4, .ref y5])), (y1, .inl (cI, hz_R gt, .inl (nf fi2152))), (y2, .inl (cI, hz_R gt, .inl (nf la2152))), (y3, .inl (cI, hz_R gt, .inl (nf kc2152))), (y4, .inl (cI, hz_R gt, .inl (nf vc2152))), (y5, .inl (cI, hz_R gt, .inl (nf bo2152))), (f, .inr (2, [.int (nI (aN (cpA a to fr fld))), .ref b1152, .ref b2152, .ref b3152, .ref b4152, .ref b5152, .ref b6152])), (b1152, .inl (cI, hz_L (gF g (aN (cpA a to fr fld))), .inl (nf ow2152))), (b2152, .inl (cL, hz_L (gF g (aN (cpA a to fr fld))), .inr (.inl ky2152))), (b3152, .inl (cB, hz_L (gF g (aN (cpA a to fr fld))), .inl (nf kd2152))), (b4152, .inl (cL, hz_L (gF g (aN (cpA a to fr fld))), .inr (.inl nu2152))), (b5152, .inl (cI, hz_L (gF g (aN (cpA a to fr fld))), .inl (nf fo2152))), (b6152, .inl (cI, hz_M (gF g (aN (cpA a to fr fld))), .inl (nf sn2152)))] H := by rw [show aN (cpA a to fr fld) = aN (giveA (cpA a to fr q) (to * 8 + aO a fld % 8) (aK a fld) (aD a fld) (aU a fld)) from hNg.symm]; rw [show aN (cpA a to fr fld) = aN (giveA (cpA a to fr q) (to * 8 + aO a fld % 8) (aK a fld) (aD a fld) (aU a fld)) from hNg.symm] at hP hD; exact hP
                  have hD : va_D A [(x0, .inr (0, [.ref tr, .ref f, .int (nI ck), .long cn])), (tr, .inr (1, [.int (nI nT), .ref y1, .ref y2, .ref y3, .ref y4, .ref y5])), (y1, .inl (cI, hz_R gt, .inl (nf fi2152))), (y2, .inl (cI, hz_R gt, .inl (nf la2152))), (y3, .inl (cI, hz_R gt, .inl (nf kc2152))), (y4, .inl (cI, hz_R gt, .inl (nf vc2152))), (y5, .inl (cI, hz_R gt, .inl (nf bo2152))), (f, .inr (2, [.int (nI (aN (cpA a to fr fld))), .ref b1152, .ref b2152, .ref b3152, .ref b4152, .ref b5152, .ref b6152])), (b1152, .inl (cI, hz_L (gF g (aN (cpA a to fr fld))), .inl (nf ow2152))), (b2152, .inl (cL, hz_L (gF g (aN (cpA a to fr fld))), .inr (.inl ky2152))), (b3152, .inl (cB, hz_L (gF g (aN (cpA a to fr fld))), .inl (nf kd2152))), (b4152, .inl (cL, hz_L (gF g (aN (cpA a to fr fld))), .inr (.inl nu2152))), (b5152, .inl (cI, hz_L (gF g (aN (cpA a to fr fld))), .inl (nf fo2152))), (b6152, .inl (cI, hz_M (gF g (aN (cpA a to fr fld))), .inl (nf sn2152)))] := by rw [show aN (cpA a to fr fld) = aN (giveA (cpA a to fr q) (to * 8 + aO a fld % 8) (aK a fld) (aD a fld) (aU a fld)) from hNg.symm]; rw [show aN (cpA a to fr fld) = aN (giveA (cpA a to fr q) (to * 8 + aO a fld % 8) (aK a fld) (aD a fld) (aU a fld)) from hNg.symm] at hP hD; exact hD
                  refine W.widen (k := 6 * (gF g (aN (cpA a to fr fld)) - g)) (n := Gs (gF g (aN (cpA a to fr fld))) - Gs g) (by rw [eT]; omega) (by rw [eT]; omega) ?_
                  exact ih (fo2152 fld) (sen + 1) (cm + (comeA (cpA a to fr q) (to * 8 + aO a fld % 8) (aK a fld) (aD a fld))) fld b1152 b2152 b3152 b4152 b5152 b6152 fi2152 la2152 kc2152 vc2152 bo2152 ow2152 ky2152 kd2152 nu2152 fo2152 sn2152 hgb hfn (by omega) hcm2 (by rw [← eT, eS]; exact h152) (by omega) _ _ hP hD hS ls (lv_sub hl [4, 5, 6, 2, 1, 7, 0] rfl)
        have eg0 : gF g (aN (cpA a to fr 0)) = g := gF_same hg hn4 hnL
        have hP : va_P (dC, dI) classes [(x0, .inr (0, [.ref tr, .ref f, .int (nI ck), .long cn])), (tr, .inr (1, [.int (nI nT), .ref y1, .ref y2, .ref y3, .ref y4, .ref y5])), (y1, .inl (cI, hz_R gt, .inl (nf fi))), (y2, .inl (cI, hz_R gt, .inl (nf la))), (y3, .inl (cI, hz_R gt, .inl (nf kc))), (y4, .inl (cI, hz_R gt, .inl (nf vc))), (y5, .inl (cI, hz_R gt, .inl (nf bo))), (f, .inr (2, [.int (nI (aN (cpA a to fr 0))), .ref a1, .ref a2, .ref a3, .ref a4, .ref a5, .ref a6])), (a1, .inl (cI, hz_L (gF g (aN (cpA a to fr 0))), .inl (nf ow))), (a2, .inl (cL, hz_L (gF g (aN (cpA a to fr 0))), .inr (.inl ky))), (a3, .inl (cB, hz_L (gF g (aN (cpA a to fr 0))), .inl (nf kd))), (a4, .inl (cL, hz_L (gF g (aN (cpA a to fr 0))), .inr (.inl nu))), (a5, .inl (cI, hz_L (gF g (aN (cpA a to fr 0))), .inl (nf fo))), (a6, .inl (cI, hz_M (gF g (aN (cpA a to fr 0))), .inl (nf sn)))] H := by rw [eg0]; exact hP
        have hD : va_D A [(x0, .inr (0, [.ref tr, .ref f, .int (nI ck), .long cn])), (tr, .inr (1, [.int (nI nT), .ref y1, .ref y2, .ref y3, .ref y4, .ref y5])), (y1, .inl (cI, hz_R gt, .inl (nf fi))), (y2, .inl (cI, hz_R gt, .inl (nf la))), (y3, .inl (cI, hz_R gt, .inl (nf kc))), (y4, .inl (cI, hz_R gt, .inl (nf vc))), (y5, .inl (cI, hz_R gt, .inl (nf bo))), (f, .inr (2, [.int (nI (aN (cpA a to fr 0))), .ref a1, .ref a2, .ref a3, .ref a4, .ref a5, .ref a6])), (a1, .inl (cI, hz_L (gF g (aN (cpA a to fr 0))), .inl (nf ow))), (a2, .inl (cL, hz_L (gF g (aN (cpA a to fr 0))), .inr (.inl ky))), (a3, .inl (cB, hz_L (gF g (aN (cpA a to fr 0))), .inl (nf kd))), (a4, .inl (cL, hz_L (gF g (aN (cpA a to fr 0))), .inr (.inl nu))), (a5, .inl (cI, hz_L (gF g (aN (cpA a to fr 0))), .inl (nf fo))), (a6, .inl (cI, hz_M (gF g (aN (cpA a to fr 0))), .inl (nf sn)))] := by rw [eg0]; exact hD
        refine W.widen (k := 6 * (gF g (aN (cpA a to fr 0)) - g)) (n := Gs (gF g (aN (cpA a to fr 0))) - Gs g) (by omega) (by omega) ?_
        exact loop_89 (aN a - 0 + 1) (fi fr) 0 0 0 a1 a2 a3 a4 a5 a6 fi la kc vc bo ow ky kd nu fo sn (hCT.2 fr hfr1 hfr2).1 (Nat.zero_le _) (Nat.zero_le _) rfl (by rw [eg0]; exact hCI) (Nat.lt_succ_self _) _ _ hP hD hS ls (lv_sub hl [4, 5, 6, 3, 2, 1, 0] rfl)
      refine lv_aload_n hx hb d_F_copy_24 rfl (lv_at hl 0 rfl) ?_
      refine va_get (D := (dC, dI)) (ci := 0) (v := .ref tr) (C := R_F) (T := T_F) (N := 4) hx hb hw in_F hown hK hP 0 rfl rfl 0 (by decide) (hw _ m_83) (fun _ h9 => h9) rfl d_F_copy_25 ?_
      refine va_get (D := (dC, dI)) (ci := 1) (v := .ref y4) (C := R_T) (T := T_T) (N := 6) hx hb hw in_T hown hK hP 1 rfl rfl 4 (by decide) (hw _ m_31) (fun _ h9 => h9) rfl d_F_copy_28 ?_
      refine lv_iload_n hx hb d_F_copy_31 rfl (lv_at hl 2 rfl) ?_
      refine fz_iald hx hb hK hP 5 0 rfl rfl (j := fr) (by omega) (by omega) d_F_copy_32 ?_
      refine lv_aload_n hx hb d_F_copy_33 rfl (lv_at hl 0 rfl) ?_
      refine va_get (D := (dC, dI)) (ci := 0) (v := .ref f) (C := R_F) (T := T_F) (N := 4) hx hb hw in_F hown hK hP 0 rfl rfl 1 (by decide) (hw _ m_84) (fun _ h9 => h9) rfl d_F_copy_34 ?_
      refine QryI.callV (ci := 2) (q0 := 0) (c_room l dC dI cI cL cB f a1 a2 a3 a4 a5 a6 (aN a) (by omega)) ⟨hx, hb, hml, hown, hw⟩ (fz_cwV 0 hw m_142 m_139 m_140 m_141 m_3 rfl rfl (by decide +kernel) ⟨Nat.le_of_ble_eq_true rfl, Nat.le_of_ble_eq_true rfl⟩) hK hP [7] rfl rfl rfl rfl rfl hl.1 rfl (Nat.le_of_ble_eq_true rfl) d_F_copy_37 ⟨(by (try dsimp only); omega), (by (try dsimp only); omega)⟩ (fun r37 h37 => ?_)
      subst h37
      refine lv_icmp_le (tgt := 62) hx hb d_F_copy_40 (by decide) (fun c40 => ?_) (fun c40 => ?_)
      · have c40 : vc fr ≤ 40000 - aN a := by exact (nI_leI (by omega) (by omega)).mp c40
        exact join_62  (by omega)  _ _ hP hD hS ls (lv_sub hl [0, 1, 2] rfl)
      · have c40 : ¬ vc fr ≤ 40000 - aN a := fun h => c40 (by exact (nI_leI (by omega) (by omega)).mpr h)
        refine lv_aload_n hx hb d_F_copy_43 rfl (lv_at hl 0 rfl) ?_
        refine lv_iload_n hx hb d_F_copy_44 rfl (lv_at hl 1 rfl) ?_
        refine lv_iload_n hx hb d_F_copy_45 rfl (lv_at hl 2 rfl) ?_
        refine QryI.callV (ci := 0) (q0 := 0) (c_missingOf l dC dI cI cL cB x0 tr f y1 y2 y3 y4 y5 a1 a2 a3 a4 a5 a6 ck nT g gt cn a fi la kc vc bo ow ky kd nu fo sn to fr hCI (by omega) (by omega) (by omega)) ⟨hx, hb, hml, hown, hw⟩ (fz_cwV 2 hw m_335 m_332 m_334 ms_18 m_1 rfl rfl (by decide +kernel) ⟨Nat.le_of_ble_eq_true rfl, Nat.le_of_ble_eq_true rfl⟩) hK hP [0, 1, 2, 3, 4, 5, 6, 7, 8, 9, 10, 11, 12, 13] rfl rfl rfl rfl rfl hl.1 rfl (Nat.le_of_ble_eq_true rfl) d_F_copy_46 ⟨(by (try dsimp only); omega), (by (try dsimp only); omega)⟩ (fun r46 h46 => ?_)
        subst h46
        refine lv_aload_n hx hb d_F_copy_49 rfl (lv_at hl 0 rfl) ?_
        refine va_get (D := (dC, dI)) (ci := 0) (v := .ref f) (C := R_F) (T := T_F) (N := 4) hx hb hw in_F hown hK hP 0 rfl rfl 1 (by decide) (hw _ m_84) (fun _ h9 => h9) rfl d_F_copy_50 ?_
        refine QryI.callV (ci := 2) (q0 := 0) (c_room l dC dI cI cL cB f a1 a2 a3 a4 a5 a6 (aN a) (by omega)) ⟨hx, hb, hml, hown, hw⟩ (fz_cwV 0 hw m_142 m_139 m_140 m_141 m_3 rfl rfl (by decide +kernel) ⟨Nat.le_of_ble_eq_true rfl, Nat.le_of_ble_eq_true rfl⟩) hK hP [7] rfl rfl rfl rfl rfl hl.1 rfl (Nat.le_of_ble_eq_true rfl) d_F_copy_53 ⟨(by (try dsimp only); omega), (by (try dsimp only); omega)⟩ (fun r53 h53 => ?_)
        subst h53
        refine lv_icmp_le (tgt := 62) hx hb d_F_copy_56 (by decide) (fun c56 => ?_) (fun c56 => ?_)
        · have c56 : mcA a to fr (aN a) ≤ 40000 - aN a := by exact (nI_leI (by omega) (by omega)).mp c56
          exact join_62  (by omega)  _ _ hP hD hS ls (lv_sub hl [0, 1, 2] rfl)
        · have c56 : ¬ mcA a to fr (aN a) ≤ 40000 - aN a := fun h => c56 (by exact (nI_leI (by omega) (by omega)).mpr h)
          refine lv_bipush (v := -3) hx hb d_F_copy_59 (by decide) ?_
          have eF : (fCopy nT a x y) = (-3, a) := eG.trans (if_pos (by omega))
          have eg : gF g (aN ((fCopy nT a x y).2)) = g := by rw [eF]; exact gF_same hg hn4 hnL
          have hP : va_P (dC, dI) classes [(x0, .inr (0, [.ref tr, .ref f, .int (nI ck), .long cn])), (tr, .inr (1, [.int (nI nT), .ref y1, .ref y2, .ref y3, .ref y4, .ref y5])), (y1, .inl (cI, hz_R gt, .inl (nf fi))), (y2, .inl (cI, hz_R gt, .inl (nf la))), (y3, .inl (cI, hz_R gt, .inl (nf kc))), (y4, .inl (cI, hz_R gt, .inl (nf vc))), (y5, .inl (cI, hz_R gt, .inl (nf bo))), (f, .inr (2, [.int (nI (aN (fCopy nT a x y).2)), .ref a1, .ref a2, .ref a3, .ref a4, .ref a5, .ref a6])), (a1, .inl (cI, hz_L (gF g (aN ((fCopy nT a x y).2))), .inl (nf ow))), (a2, .inl (cL, hz_L (gF g (aN ((fCopy nT a x y).2))), .inr (.inl ky))), (a3, .inl (cB, hz_L (gF g (aN ((fCopy nT a x y).2))), .inl (nf kd))), (a4, .inl (cL, hz_L (gF g (aN ((fCopy nT a x y).2))), .inr (.inl nu))), (a5, .inl (cI, hz_L (gF g (aN ((fCopy nT a x y).2))), .inl (nf fo))), (a6, .inl (cI, hz_M (gF g (aN ((fCopy nT a x y).2))), .inl (nf sn)))] s.heap := by rw [eg, eF]; exact hP
          have hD : va_D A [(x0, .inr (0, [.ref tr, .ref f, .int (nI ck), .long cn])), (tr, .inr (1, [.int (nI nT), .ref y1, .ref y2, .ref y3, .ref y4, .ref y5])), (y1, .inl (cI, hz_R gt, .inl (nf fi))), (y2, .inl (cI, hz_R gt, .inl (nf la))), (y3, .inl (cI, hz_R gt, .inl (nf kc))), (y4, .inl (cI, hz_R gt, .inl (nf vc))), (y5, .inl (cI, hz_R gt, .inl (nf bo))), (f, .inr (2, [.int (nI (aN (fCopy nT a x y).2)), .ref a1, .ref a2, .ref a3, .ref a4, .ref a5, .ref a6])), (a1, .inl (cI, hz_L (gF g (aN ((fCopy nT a x y).2))), .inl (nf ow))), (a2, .inl (cL, hz_L (gF g (aN ((fCopy nT a x y).2))), .inr (.inl ky))), (a3, .inl (cB, hz_L (gF g (aN ((fCopy nT a x y).2))), .inl (nf kd))), (a4, .inl (cL, hz_L (gF g (aN ((fCopy nT a x y).2))), .inr (.inl nu))), (a5, .inl (cI, hz_L (gF g (aN ((fCopy nT a x y).2))), .inl (nf fo))), (a6, .inl (cI, hz_M (gF g (aN ((fCopy nT a x y).2))), .inl (nf sn)))] := by rw [eg, eF]; exact hD
          refine W.widen (k := 6 * (gF g (aN ((fCopy nT a x y).2)) - g)) (n := Gs (gF g (aN ((fCopy nT a x y).2))) - Gs g) (by omega) (by omega) ?_
          have hpost : (-3) = (fCopy nT a x y).1 ∧ CI nT ((fCopy nT a x y).2) (gF g (aN ((fCopy nT a x y).2))) gt ow ky kd nu fo sn fi la kc vc bo := ⟨by rw [eF], by rw [eg, eF]; exact hCI⟩
          exact hret (-3) (a1, a2, a3, a4, a5, a6, fi, la, kc, vc, bo, ow, ky, kd, nu, fo, sn) _ _ 61 ls hpost hP hD hS d_F_copy_61
    · have c19 : b16 = 0 := (nI_eq (by omega) (by omega)).mp (c19.trans nI_0.symm)
      refine lv_iconst (v := -1) hx hb d_F_copy_22 (by decide) ?_
      have eF : (fCopy nT a x y) = (-1, a) := ifc_neg (fun h => absurd (hok16.mpr h.2) (by omega))
      have eg : gF g (aN ((fCopy nT a x y).2)) = g := by rw [eF]; exact gF_same hg hn4 hnL
      have hP : va_P (dC, dI) classes [(x0, .inr (0, [.ref tr, .ref f, .int (nI ck), .long cn])), (tr, .inr (1, [.int (nI nT), .ref y1, .ref y2, .ref y3, .ref y4, .ref y5])), (y1, .inl (cI, hz_R gt, .inl (nf fi))), (y2, .inl (cI, hz_R gt, .inl (nf la))), (y3, .inl (cI, hz_R gt, .inl (nf kc))), (y4, .inl (cI, hz_R gt, .inl (nf vc))), (y5, .inl (cI, hz_R gt, .inl (nf bo))), (f, .inr (2, [.int (nI (aN (fCopy nT a x y).2)), .ref a1, .ref a2, .ref a3, .ref a4, .ref a5, .ref a6])), (a1, .inl (cI, hz_L (gF g (aN ((fCopy nT a x y).2))), .inl (nf ow))), (a2, .inl (cL, hz_L (gF g (aN ((fCopy nT a x y).2))), .inr (.inl ky))), (a3, .inl (cB, hz_L (gF g (aN ((fCopy nT a x y).2))), .inl (nf kd))), (a4, .inl (cL, hz_L (gF g (aN ((fCopy nT a x y).2))), .inr (.inl nu))), (a5, .inl (cI, hz_L (gF g (aN ((fCopy nT a x y).2))), .inl (nf fo))), (a6, .inl (cI, hz_M (gF g (aN ((fCopy nT a x y).2))), .inl (nf sn)))] s.heap := by rw [eg, eF]; exact hP
      have hD : va_D A [(x0, .inr (0, [.ref tr, .ref f, .int (nI ck), .long cn])), (tr, .inr (1, [.int (nI nT), .ref y1, .ref y2, .ref y3, .ref y4, .ref y5])), (y1, .inl (cI, hz_R gt, .inl (nf fi))), (y2, .inl (cI, hz_R gt, .inl (nf la))), (y3, .inl (cI, hz_R gt, .inl (nf kc))), (y4, .inl (cI, hz_R gt, .inl (nf vc))), (y5, .inl (cI, hz_R gt, .inl (nf bo))), (f, .inr (2, [.int (nI (aN (fCopy nT a x y).2)), .ref a1, .ref a2, .ref a3, .ref a4, .ref a5, .ref a6])), (a1, .inl (cI, hz_L (gF g (aN ((fCopy nT a x y).2))), .inl (nf ow))), (a2, .inl (cL, hz_L (gF g (aN ((fCopy nT a x y).2))), .inr (.inl ky))), (a3, .inl (cB, hz_L (gF g (aN ((fCopy nT a x y).2))), .inl (nf kd))), (a4, .inl (cL, hz_L (gF g (aN ((fCopy nT a x y).2))), .inr (.inl nu))), (a5, .inl (cI, hz_L (gF g (aN ((fCopy nT a x y).2))), .inl (nf fo))), (a6, .inl (cI, hz_M (gF g (aN ((fCopy nT a x y).2))), .inl (nf sn)))] := by rw [eg, eF]; exact hD
      refine W.widen (k := 6 * (gF g (aN ((fCopy nT a x y).2)) - g)) (n := Gs (gF g (aN ((fCopy nT a x y).2))) - Gs g) (by omega) (by omega) ?_
      have hpost : (-1) = (fCopy nT a x y).1 ∧ CI nT ((fCopy nT a x y).2) (gF g (aN ((fCopy nT a x y).2))) gt ow ky kd nu fo sn fi la kc vc bo := ⟨by rw [eF], by rw [eg, eF]; exact hCI⟩
      exact hret (-1) (a1, a2, a3, a4, a5, a6, fi, la, kc, vc, bo, ow, ky, kd, nu, fo, sn) _ _ 23 ls hpost hP hD hS d_F_copy_23
