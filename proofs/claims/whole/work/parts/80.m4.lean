set_option maxHeartbeats 4000000 in
set_option maxRecDepth 100000 in
/-- isIn -/
theorem m_isIn (l : Launch) (dC : Nat → ClassId) (dI : Nat → Nat → Nat) (cI cL cB : ClassId) (mo : Nat) (m1 : Nat) (m2 : Nat) (m3 : Nat) (m4 : Nat) (m5 : Nat) (m6 : Nat) (m7 : Nat) (m8 : Nat) (m9 : Nat) (m10 : Nat) (m11 : Nat) (ck : Nat) (nT : Nat) (gm : Nat) (gt : Nat) (cn : Int64) (a : AS) (kk : Nat → Nat) (ky : Nat → Int64) (kd : Nat → Nat) (nu : Nat → Int64) (tb : Nat → Nat) (nx : Nat → Nat) (ot : Nat → Nat) (ch : Nat → Nat) (fi : Nat → Nat) (la : Nat → Nat) (sz : Nat → Nat) (one : Nat) (oth : Nat) (hMI : MI nT a gm gt kk ky kd nu tb nx ot ch fi la sz) (ho1 : 1 ≤ one) (ho2 : one ≤ nT) (ht2 : oth ≤ nT) : QryI l y_M_isIn (wd y_M_isIn b_M_isIn 6 (some .boolean)) 2 50 (dC, dI) classes (tyK cI cL cB) [.ref mo, .int (nI one), .int (nI oth)] [(mo, .inr (3, [.ref m1, .ref m2, .ref m3, .ref m4, .ref m5, .ref m6, .ref m7, .int (nI (aN a)), .ref m8, .ref m9, .ref m10, .ref m11, .int (nI nT), .int (nI ck), .long cn])), (m1, .inl (cB, md_L gm, .inl (nf kk))), (m2, .inl (cL, md_L gm, .inr (.inl ky))), (m3, .inl (cB, md_L gm, .inl (nf kd))), (m4, .inl (cL, md_L gm, .inr (.inl nu))), (m5, .inl (cI, md_L gm, .inl (nf tb))), (m6, .inl (cI, md_L gm, .inl (nf nx))), (m7, .inl (cI, md_L gm, .inl (nf ot))), (m8, .inl (cI, 8191, .inl (nf ch))), (m9, .inl (cI, md_R gt, .inl (nf fi))), (m10, .inl (cI, md_R gt, .inl (nf la))), (m11, .inl (cI, md_R gt, .inl (nf sz)))] (fun r : Int32 => ∃ b, b ≤ 1 ∧ r = nI b ∧ (b = 1 ↔ subA a one oth)) := by
  obtain ⟨hMS, hMT, hgt, hRT⟩ := id hMI
  have hAI := hMS.1
  have hnT := hMS.2.1
  have hgm := hMS.2.2.1
  have hnL := hMS.2.2.2.1
  have hAg := hMS.2.2.2.2.1
  have hk8 := hMS.2.2.2.2.2.1
  have hd7 := hMS.2.2.2.2.2.2.1
  have hdz := hMS.2.2.2.2.2.2.2.1
  have hch := hMS.2.2.2.2.2.2.2.2.1
  have hot := hMS.2.2.2.2.2.2.2.2.2
  have hg1 := md_gen gm hgm
  have hg2 := md_gen gt hgt
  have hn4 := hAI.1
  refine QryZ.mk (cc := b_M_isIn) (maxL := 6) (by decide) rfl (Nat.le_of_ble_eq_true rfl) ?_
  intro p e s m below meth c Z ls hx hb hml hown hts hP hK hret hl
  have hP : va_P (dC, dI) classes [(mo, .inr (3, [.ref m1, .ref m2, .ref m3, .ref m4, .ref m5, .ref m6, .ref m7, .int (nI (aN a)), .ref m8, .ref m9, .ref m10, .ref m11, .int (nI nT), .int (nI ck), .long cn])), (m1, .inl (cB, md_L gm, .inl (nf kk))), (m2, .inl (cL, md_L gm, .inr (.inl ky))), (m3, .inl (cB, md_L gm, .inl (nf kd))), (m4, .inl (cL, md_L gm, .inr (.inl nu))), (m5, .inl (cI, md_L gm, .inl (nf tb))), (m6, .inl (cI, md_L gm, .inl (nf nx))), (m7, .inl (cI, md_L gm, .inl (nf ot))), (m8, .inl (cI, 8191, .inl (nf ch))), (m9, .inl (cI, md_R gt, .inl (nf fi))), (m10, .inl (cI, md_R gt, .inl (nf la))), (m11, .inl (cI, md_R gt, .inl (nf sz)))] s.heap := hP
  have hown : s.vm.findClass R_M = some m.cls := hown
  have hw : ∀ x ∈ WALL, x.before _ s = true := fun x h => hts x (List.mem_cons_of_mem _ h)
  have hl : lv_has ls 6 [(0, .ref mo), (1, .int (nI one)), (2, .int (nI oth))] := hl
  refine lv_iconst (v := nI 1) hx hb d_M_isIn_0 (by decide) ?_
  refine lv_istore_n (lv' := [(3, .int (nI 1)), (0, .ref mo), (1, .int (nI one)), (2, .int (nI oth))]) hx hb d_M_isIn_1 rfl hl (by decide) rfl (fun ls hl => ?_)
  refine lv_aload_n hx hb d_M_isIn_2 rfl (lv_at hl 1 rfl) ?_
  refine va_get (D := (dC, dI)) (ci := 3) (v := .ref m9) (C := R_M) (T := T_M) (N := 15) hx hb hw in_M hown hK hP 0 rfl rfl 9 (by decide) (hw _ m_370) (fun _ h9 => h9) rfl d_M_isIn_3 ?_
  refine lv_iload_n hx hb d_M_isIn_6 rfl (lv_at hl 2 rfl) ?_
  refine fz_iald hx hb hK hP 9 0 rfl rfl (j := one) (by omega) (by omega) d_M_isIn_7 ?_
  refine lv_istore (lv' := [(4, .int (nI (fi one))), (3, .int (nI 1)), (0, .ref mo), (1, .int (nI one)), (2, .int (nI oth))]) hx hb d_M_isIn_8 hl (by decide) rfl (fun ls hl => ?_)
  have loop_10 : ∀ (fuel : Nat) (fld : Nat) (al : Nat) (q : Nat), ch_N (aO a) one (aN a) q fld → q ≤ aN a → ((al = 1 ∧ (∀ i, 1 ≤ i → i ≤ q → aO a i / 8 = one → aD a i ≠ 0 → aD a i = aD a (aF a (oth * 8 + aO a i % 8) (aK a i)) ∧ aU a i = aU a (aF a (oth * 8 + aO a i % 8) (aK a i)))) ∨ (al = 0 ∧ ¬ subA a one oth)) → aN a - q < fuel → ∀ (ls : Array Slot), lv_has ls 6 [(0, .ref mo), (1, .int (nI one)), (2, .int (nI oth)), (3, .int (nI al)), (4, .int (nI fld))] → W p l e { frames := 2, cells := 0, slots := 0, locals := 50 } s m [.ref mo, .int (nI one), .int (nI oth)].toArray below meth c s.heap [] 0 0 Z (F0 m 10 ls []) := by
    intro fuel
    induction fuel with
    | zero => intro fld al q hfl hqn hal hfuel; exact absurd hfuel (Nat.not_lt_zero _)
    | succ fuel ih =>
      intro fld al q hfl hqn hal hfuel ls hl
      have hfn := hfl.le
      have hal9 : al ≤ 1 := by rcases hal with q9 | q9 <;> omega
      refine lv_iload hx hb d_M_isIn_10 (lv_at hl 4 rfl) ?_
      refine lv_if_le (tgt := 111) hx hb d_M_isIn_12 (by decide) (fun c12 => ?_) (fun c12 => ?_)
      · have c12 : fld ≤ 0 := by rw [← nI_0] at c12; exact (nI_leI (by omega) (by omega)).mp c12
        refine lv_iload_n hx hb d_M_isIn_111 rfl (lv_at hl 3 rfl) ?_
        have hall : al = 1 → subA a one oth := fun e => by
          rcases hal with ⟨_, hsb⟩ | ⟨q9, _⟩
          · intro i i1 i2 i3 i4
            rcases Nat.lt_or_ge q i with z | z
            · rcases hfl with ⟨_, w⟩ | ⟨w, _⟩
              · exact absurd i3 (w i z i2)
              · omega
            · exact hsb i i1 z i3 i4
          · omega
        have hnal : subA a one oth → al = 1 := fun e => by
          rcases hal with q9 | q9
          · exact q9.1
          · exact absurd e q9.2
        have hzz : nI al = 0 ∨ nI al = 1 := by
          rcases hal with q9 | q9
          · rw [q9.1]; exact Or.inr rfl
          · rw [q9.1]; exact Or.inl rfl
        exact hret (nI al) 112 ls hzz ⟨al, by rcases hal with q9 | q9 <;> omega, rfl, fun e => hall e, fun e => hnal e⟩ d_M_isIn_112
      · have c12 : ¬ fld ≤ 0 := fun h => c12 (by rw [← nI_0]; exact (nI_leI (by omega) (by omega)).mpr h)
        have hz9 : fld ≠ 0 := by omega
        have hff := hfl.facts hz9
        have hdf := hd7 fld
        have hAf := hAg fld (by omega) hfn
        have hOf := hAI.2.1 fld (by omega) hfn
        refine lv_iload_n hx hb d_M_isIn_15 rfl (lv_at hl 3 rfl) ?_
        refine lv_if_eq (tgt := 111) hx hb d_M_isIn_16 (by decide) (fun c16 => ?_) (fun c16 => ?_)
        · have c16 : al = 0 := (nI_eq (by omega) (by omega)).mp (c16.trans nI_0.symm)
          refine lv_iload_n hx hb d_M_isIn_111 rfl (lv_at hl 3 rfl) ?_
          have hnal : subA a one oth → al = 1 := fun e => by
            rcases hal with q9 | q9
            · exact q9.1
            · exact absurd e q9.2
          have hzz : nI al = 0 ∨ nI al = 1 := by
            rcases hal with q9 | q9
            · rw [q9.1]; exact Or.inr rfl
            · rw [q9.1]; exact Or.inl rfl
          exact hret (nI al) 112 ls hzz ⟨al, by omega, rfl, fun e => absurd e (by omega), fun e => hnal e⟩ d_M_isIn_112
        · have c16 : ¬ al = 0 := fun h => c16 (((nI_eq (by omega) (by omega)).mpr h).trans nI_0)
          have hal1 : al = 1 := by rcases hal with q9 | q9 <;> omega
          have hsb : (∀ i, 1 ≤ i → i ≤ q → aO a i / 8 = one → aD a i ≠ 0 → aD a i = aD a (aF a (oth * 8 + aO a i % 8) (aK a i)) ∧ aU a i = aU a (aF a (oth * 8 + aO a i % 8) (aK a i))) := by
            rcases hal with q9 | q9
            · exact q9.2
            · omega
          refine lv_aload_n hx hb d_M_isIn_19 rfl (lv_at hl 0 rfl) ?_
          refine va_get (D := (dC, dI)) (ci := 3) (v := .ref m3) (C := R_M) (T := T_M) (N := 15) hx hb hw in_M hown hK hP 0 rfl rfl 2 (by decide) (hw _ m_363) (fun _ h9 => h9) rfl d_M_isIn_20 ?_
          refine lv_iload hx hb d_M_isIn_23 (lv_at hl 4 rfl) ?_
          refine fz_bald hx hb hK hP 3 2 rfl rfl (j := fld) (by omega) (by omega) d_M_isIn_25 ?_
          refine lv_if_ne (tgt := 32) hx hb d_M_isIn_26 (by decide) (fun c26 => ?_) (fun c26 => ?_)
          · have c26 : ¬ kd fld = 0 := fun h => c26 (((nI_eq (by omega) (by omega)).mpr h).trans nI_0)
            refine lv_aload_n hx hb d_M_isIn_32 rfl (lv_at hl 0 rfl) ?_
            refine lv_iload_n hx hb d_M_isIn_33 rfl (lv_at hl 2 rfl) ?_
            refine lv_aload_n hx hb d_M_isIn_34 rfl (lv_at hl 0 rfl) ?_
            refine va_get (D := (dC, dI)) (ci := 3) (v := .ref m1) (C := R_M) (T := T_M) (N := 15) hx hb hw in_M hown hK hP 0 rfl rfl 0 (by decide) (hw _ m_361) (fun _ h9 => h9) rfl d_M_isIn_35 ?_
            refine lv_iload hx hb d_M_isIn_38 (lv_at hl 4 rfl) ?_
            refine fz_bald hx hb hK hP 1 2 rfl rfl (j := fld) (by omega) (by omega) d_M_isIn_40 ?_
            refine fz_eqi (y := nI (aO a fld % 8)) (by rw [hAf.1]) ?_
            refine lv_aload_n hx hb d_M_isIn_41 rfl (lv_at hl 0 rfl) ?_
            refine va_get (D := (dC, dI)) (ci := 3) (v := .ref m2) (C := R_M) (T := T_M) (N := 15) hx hb hw in_M hown hK hP 0 rfl rfl 1 (by decide) (hw _ m_362) (fun _ h9 => h9) rfl d_M_isIn_42 ?_
            refine lv_iload hx hb d_M_isIn_45 (lv_at hl 4 rfl) ?_
            refine fz_lald hx hb hK hP 2 1 rfl rfl (j := fld) (by omega) (by omega) d_M_isIn_47 ?_
            refine fz_eql (y := aK a fld) (hAf.2.2.1) ?_
            refine QryI.callV (ci := 3) (q0 := 0) (m_find l dC dI cI cL cB mo m1 m2 m3 m4 m5 m6 m7 m8 m9 m10 m11 ck nT gm gt cn a kk ky kd nu tb nx ot ch fi la sz oth (aO a fld % 8) (aK a fld) hMI (by omega) (by omega)) ⟨hx, hb, hml, hown, hw⟩ (fz_cwV 3 hw m_427 m_424 m_426 ms_20 m_4 rfl rfl (by decide +kernel) ⟨Nat.le_of_ble_eq_true rfl, Nat.le_of_ble_eq_true rfl⟩) hK hP [0, 1, 2, 3, 4, 5, 6, 7, 8, 9, 10, 11] rfl rfl rfl rfl rfl hl.1 rfl (Nat.le_of_ble_eq_true rfl) d_M_isIn_48 ⟨(Nat.le_of_ble_eq_true rfl), (Nat.le_of_ble_eq_true rfl)⟩ (fun r48 h48 => ?_)
            subst h48
            refine lv_istore (lv' := [(5, .int (nI (aF a (oth * 8 + aO a fld % 8) (aK a fld)))), (0, .ref mo), (1, .int (nI one)), (2, .int (nI oth)), (3, .int (nI al)), (4, .int (nI fld))]) hx hb d_M_isIn_51 hl (by decide) rfl (fun ls hl => ?_)
            refine lv_iload hx hb d_M_isIn_53 (lv_at hl 0 rfl) ?_
            have hlt9 := aF_le a (oth * 8 + aO a fld % 8) (aK a fld)
            refine lv_if_le (tgt := 97) hx hb d_M_isIn_55 (by decide) (fun c55 => ?_) (fun c55 => ?_)
            · have c55 : aF a (oth * 8 + aO a fld % 8) (aK a fld) ≤ 0 := by rw [← nI_0] at c55; exact (nI_leI (by omega) (by omega)).mp c55
              refine lv_iconst (v := nI 0) hx hb d_M_isIn_97 (by decide) ?_
              refine lv_istore_n (lv' := [(3, .int (nI 0)), (5, .int (nI (aF a (oth * 8 + aO a fld % 8) (aK a fld)))), (0, .ref mo), (1, .int (nI one)), (2, .int (nI oth)), (4, .int (nI fld))]) hx hb d_M_isIn_98 rfl hl (by decide) rfl (fun ls hl => ?_)
              refine lv_aload_n hx hb d_M_isIn_99 rfl (lv_at hl 2 rfl) ?_
              refine va_get (D := (dC, dI)) (ci := 3) (v := .ref m6) (C := R_M) (T := T_M) (N := 15) hx hb hw in_M hown hK hP 0 rfl rfl 5 (by decide) (hw _ m_366) (fun _ h9 => h9) rfl d_M_isIn_100 ?_
              refine lv_iload hx hb d_M_isIn_103 (lv_at hl 5 rfl) ?_
              refine fz_iald hx hb hK hP 6 0 rfl rfl (j := fld) (by omega) (by omega) d_M_isIn_105 ?_
              refine lv_istore (lv' := [(4, .int (nI (nx fld))), (3, .int (nI 0)), (5, .int (nI (aF a (oth * 8 + aO a fld % 8) (aK a fld)))), (0, .ref mo), (1, .int (nI one)), (2, .int (nI oth))]) hx hb d_M_isIn_106 hl (by decide) rfl (fun ls hl => ?_)
              refine lv_goto (tgt := 10) hx hb d_M_isIn_108 (by decide) ?_
              exact ih (nx fld) 0 fld (by have := hMT.1 fld (by omega) hfn; rw [hff.2.2] at this; exact this) hfn (Or.inr ⟨rfl, fun h => c26 (by have z := (h fld (by omega) hfn hff.2.2 (by rw [← hAf.2.2.2.1]; exact c26)).1; rw [show aF a (oth * 8 + aO a fld % 8) (aK a fld) = 0 by omega, hAI.2.2.2.1] at z; rw [hAf.2.2.2.1]; exact z)⟩) (by omega) ls (lv_sub hl [3, 4, 5, 1, 0] rfl)
            · have c55 : ¬ aF a (oth * 8 + aO a fld % 8) (aK a fld) ≤ 0 := fun h => c55 (by rw [← nI_0]; exact (nI_leI (by omega) (by omega)).mpr h)
              have hdt := hd7 (aF a (oth * 8 + aO a fld % 8) (aK a fld))
              have hAt := hAg (aF a (oth * 8 + aO a fld % 8) (aK a fld)) (by omega) hlt9
              refine lv_aload_n hx hb d_M_isIn_58 rfl (lv_at hl 1 rfl) ?_
              refine va_get (D := (dC, dI)) (ci := 3) (v := .ref m3) (C := R_M) (T := T_M) (N := 15) hx hb hw in_M hown hK hP 0 rfl rfl 2 (by decide) (hw _ m_363) (fun _ h9 => h9) rfl d_M_isIn_59 ?_
              refine lv_iload hx hb d_M_isIn_62 (lv_at hl 0 rfl) ?_
              refine fz_bald hx hb hK hP 3 2 rfl rfl (j := aF a (oth * 8 + aO a fld % 8) (aK a fld)) (by omega) (by omega) d_M_isIn_64 ?_
              refine lv_aload_n hx hb d_M_isIn_65 rfl (lv_at hl 1 rfl) ?_
              refine va_get (D := (dC, dI)) (ci := 3) (v := .ref m3) (C := R_M) (T := T_M) (N := 15) hx hb hw in_M hown hK hP 0 rfl rfl 2 (by decide) (hw _ m_363) (fun _ h9 => h9) rfl d_M_isIn_66 ?_
              refine lv_iload hx hb d_M_isIn_69 (lv_at hl 5 rfl) ?_
              refine fz_bald hx hb hK hP 3 2 rfl rfl (j := fld) (by omega) (by omega) d_M_isIn_71 ?_
              refine lv_icmp_ne (tgt := 97) hx hb d_M_isIn_72 (by decide) (fun c72 => ?_) (fun c72 => ?_)
              · have c72 : ¬ kd (aF a (oth * 8 + aO a fld % 8) (aK a fld)) = kd fld := fun h => c72 (by exact (nI_eq (by omega) (by omega)).mpr h)
                refine lv_iconst (v := nI 0) hx hb d_M_isIn_97 (by decide) ?_
                refine lv_istore_n (lv' := [(3, .int (nI 0)), (5, .int (nI (aF a (oth * 8 + aO a fld % 8) (aK a fld)))), (0, .ref mo), (1, .int (nI one)), (2, .int (nI oth)), (4, .int (nI fld))]) hx hb d_M_isIn_98 rfl hl (by decide) rfl (fun ls hl => ?_)
                refine lv_aload_n hx hb d_M_isIn_99 rfl (lv_at hl 2 rfl) ?_
                refine va_get (D := (dC, dI)) (ci := 3) (v := .ref m6) (C := R_M) (T := T_M) (N := 15) hx hb hw in_M hown hK hP 0 rfl rfl 5 (by decide) (hw _ m_366) (fun _ h9 => h9) rfl d_M_isIn_100 ?_
                refine lv_iload hx hb d_M_isIn_103 (lv_at hl 5 rfl) ?_
                refine fz_iald hx hb hK hP 6 0 rfl rfl (j := fld) (by omega) (by omega) d_M_isIn_105 ?_
                refine lv_istore (lv' := [(4, .int (nI (nx fld))), (3, .int (nI 0)), (5, .int (nI (aF a (oth * 8 + aO a fld % 8) (aK a fld)))), (0, .ref mo), (1, .int (nI one)), (2, .int (nI oth))]) hx hb d_M_isIn_106 hl (by decide) rfl (fun ls hl => ?_)
                refine lv_goto (tgt := 10) hx hb d_M_isIn_108 (by decide) ?_
                exact ih (nx fld) 0 fld (by have := hMT.1 fld (by omega) hfn; rw [hff.2.2] at this; exact this) hfn (Or.inr ⟨rfl, fun h => c72 (by have z := (h fld (by omega) hfn hff.2.2 (by rw [← hAf.2.2.2.1]; exact c26)).1; rw [hAf.2.2.2.1, hAt.2.2.2.1]; exact z.symm)⟩) (by omega) ls (lv_sub hl [3, 4, 5, 1, 0] rfl)
              · have c72 : kd (aF a (oth * 8 + aO a fld % 8) (aK a fld)) = kd fld := by exact (nI_eq (by omega) (by omega)).mp c72
                refine lv_aload_n hx hb d_M_isIn_75 rfl (lv_at hl 1 rfl) ?_
                refine va_get (D := (dC, dI)) (ci := 3) (v := .ref m4) (C := R_M) (T := T_M) (N := 15) hx hb hw in_M hown hK hP 0 rfl rfl 3 (by decide) (hw _ m_364) (fun _ h9 => h9) rfl d_M_isIn_76 ?_
                refine lv_iload hx hb d_M_isIn_79 (lv_at hl 0 rfl) ?_
                refine fz_lald hx hb hK hP 4 1 rfl rfl (j := aF a (oth * 8 + aO a fld % 8) (aK a fld)) (by omega) (by omega) d_M_isIn_81 ?_
                refine lv_aload_n hx hb d_M_isIn_82 rfl (lv_at hl 1 rfl) ?_
                refine va_get (D := (dC, dI)) (ci := 3) (v := .ref m4) (C := R_M) (T := T_M) (N := 15) hx hb hw in_M hown hK hP 0 rfl rfl 3 (by decide) (hw _ m_364) (fun _ h9 => h9) rfl d_M_isIn_83 ?_
                refine lv_iload hx hb d_M_isIn_86 (lv_at hl 5 rfl) ?_
                refine fz_lald hx hb hK hP 4 1 rfl rfl (j := fld) (by omega) (by omega) d_M_isIn_88 ?_
                refine W.lcmp hx hb d_M_isIn_89 ?_
                refine lv_if_ne (tgt := 97) hx hb d_M_isIn_90 (by decide) (fun c90 => ?_) (fun c90 => ?_)
                · have c90 : ¬ nu (aF a (oth * 8 + aO a fld % 8) (aK a fld)) = nu fld := fun h => c90 ((lg_cmp_eq _ _).mpr h)
                  refine lv_iconst (v := nI 0) hx hb d_M_isIn_97 (by decide) ?_
                  refine lv_istore_n (lv' := [(3, .int (nI 0)), (5, .int (nI (aF a (oth * 8 + aO a fld % 8) (aK a fld)))), (0, .ref mo), (1, .int (nI one)), (2, .int (nI oth)), (4, .int (nI fld))]) hx hb d_M_isIn_98 rfl hl (by decide) rfl (fun ls hl => ?_)
                  refine lv_aload_n hx hb d_M_isIn_99 rfl (lv_at hl 2 rfl) ?_
                  refine va_get (D := (dC, dI)) (ci := 3) (v := .ref m6) (C := R_M) (T := T_M) (N := 15) hx hb hw in_M hown hK hP 0 rfl rfl 5 (by decide) (hw _ m_366) (fun _ h9 => h9) rfl d_M_isIn_100 ?_
                  refine lv_iload hx hb d_M_isIn_103 (lv_at hl 5 rfl) ?_
                  refine fz_iald hx hb hK hP 6 0 rfl rfl (j := fld) (by omega) (by omega) d_M_isIn_105 ?_
                  refine lv_istore (lv' := [(4, .int (nI (nx fld))), (3, .int (nI 0)), (5, .int (nI (aF a (oth * 8 + aO a fld % 8) (aK a fld)))), (0, .ref mo), (1, .int (nI one)), (2, .int (nI oth))]) hx hb d_M_isIn_106 hl (by decide) rfl (fun ls hl => ?_)
                  refine lv_goto (tgt := 10) hx hb d_M_isIn_108 (by decide) ?_
                  exact ih (nx fld) 0 fld (by have := hMT.1 fld (by omega) hfn; rw [hff.2.2] at this; exact this) hfn (Or.inr ⟨rfl, fun h => c90 (by have z := (h fld (by omega) hfn hff.2.2 (by rw [← hAf.2.2.2.1]; exact c26)).2; rw [hAf.2.2.2.2, hAt.2.2.2.2]; exact z.symm)⟩) (by omega) ls (lv_sub hl [3, 4, 5, 1, 0] rfl)
                · have c90 : nu (aF a (oth * 8 + aO a fld % 8) (aK a fld)) = nu fld := (lg_cmp_eq _ _).mp c90
                  refine lv_iconst (v := nI 1) hx hb d_M_isIn_93 (by decide) ?_
                  refine lv_goto (tgt := 98) hx hb d_M_isIn_94 (by decide) ?_
                  refine lv_istore_n (lv' := [(3, .int (nI 1)), (5, .int (nI (aF a (oth * 8 + aO a fld % 8) (aK a fld)))), (0, .ref mo), (1, .int (nI one)), (2, .int (nI oth)), (4, .int (nI fld))]) hx hb d_M_isIn_98 rfl hl (by decide) rfl (fun ls hl => ?_)
                  refine lv_aload_n hx hb d_M_isIn_99 rfl (lv_at hl 2 rfl) ?_
                  refine va_get (D := (dC, dI)) (ci := 3) (v := .ref m6) (C := R_M) (T := T_M) (N := 15) hx hb hw in_M hown hK hP 0 rfl rfl 5 (by decide) (hw _ m_366) (fun _ h9 => h9) rfl d_M_isIn_100 ?_
                  refine lv_iload hx hb d_M_isIn_103 (lv_at hl 5 rfl) ?_
                  refine fz_iald hx hb hK hP 6 0 rfl rfl (j := fld) (by omega) (by omega) d_M_isIn_105 ?_
                  refine lv_istore (lv' := [(4, .int (nI (nx fld))), (3, .int (nI 1)), (5, .int (nI (aF a (oth * 8 + aO a fld % 8) (aK a fld)))), (0, .ref mo), (1, .int (nI one)), (2, .int (nI oth))]) hx hb d_M_isIn_106 hl (by decide) rfl (fun ls hl => ?_)
                  refine lv_goto (tgt := 10) hx hb d_M_isIn_108 (by decide) ?_
                  exact ih (nx fld) 1 fld (by have := hMT.1 fld (by omega) hfn; rw [hff.2.2] at this; exact this) hfn (Or.inl ⟨rfl, fun i i1 i2 i3 i4 => by
                    rcases Nat.lt_trichotomy i fld with y | y | y
                    · rcases Nat.lt_or_ge q i with z | z
                      · rcases hfl with ⟨w, _⟩ | ⟨_, _, _, w⟩
                        · exact absurd w hz9
                        · exact absurd i3 (w i z y)
                      · exact hsb i i1 z i3 i4
                    · rw [y] at i4 ⊢; rw [← hAf.2.2.2.1, ← hAf.2.2.2.2, ← hAt.2.2.2.1, ← hAt.2.2.2.2]; exact ⟨c72.symm, c90.symm⟩
                    · omega⟩) (by omega) ls (lv_sub hl [3, 4, 5, 1, 0] rfl)
          · have c26 : kd fld = 0 := (nI_eq (by omega) (by omega)).mp (c26.trans nI_0.symm)
            refine lv_goto (tgt := 99) hx hb d_M_isIn_29 (by decide) ?_
            refine lv_aload_n hx hb d_M_isIn_99 rfl (lv_at hl 0 rfl) ?_
            refine va_get (D := (dC, dI)) (ci := 3) (v := .ref m6) (C := R_M) (T := T_M) (N := 15) hx hb hw in_M hown hK hP 0 rfl rfl 5 (by decide) (hw _ m_366) (fun _ h9 => h9) rfl d_M_isIn_100 ?_
            refine lv_iload hx hb d_M_isIn_103 (lv_at hl 4 rfl) ?_
            refine fz_iald hx hb hK hP 6 0 rfl rfl (j := fld) (by omega) (by omega) d_M_isIn_105 ?_
            refine lv_istore (lv' := [(4, .int (nI (nx fld))), (0, .ref mo), (1, .int (nI one)), (2, .int (nI oth)), (3, .int (nI al))]) hx hb d_M_isIn_106 hl (by decide) rfl (fun ls hl => ?_)
            refine lv_goto (tgt := 10) hx hb d_M_isIn_108 (by decide) ?_
            exact ih (nx fld) al fld (by have := hMT.1 fld (by omega) hfn; rw [hff.2.2] at this; exact this) hfn (Or.inl ⟨hal1, fun i i1 i2 i3 i4 => by
              rcases Nat.lt_trichotomy i fld with y | y | y
              · rcases Nat.lt_or_ge q i with z | z
                · rcases hfl with ⟨w, _⟩ | ⟨_, _, _, w⟩
                  · exact absurd w hz9
                  · exact absurd i3 (w i z y)
                · exact hsb i i1 z i3 i4
              · rw [y] at i4 ⊢; exact absurd (show aD a fld = 0 by rw [← hAf.2.2.2.1]; exact c26) i4
              · omega⟩) (by omega) ls (lv_sub hl [1, 2, 3, 4, 0] rfl)
  exact loop_10 (aN a - 0 + 1) (fi one) 1 0 (hMT.2.1 one ho1 ho2).1 (Nat.zero_le _) (Or.inl ⟨rfl, fun i i1 i2 => by omega⟩) (Nat.lt_succ_self _) ls (lv_sub hl [2, 3, 4, 1, 0] rfl)
set_option maxHeartbeats 4000000 in
set_option maxRecDepth 100000 in
/-- same -/
theorem m_same (l : Launch) (dC : Nat → ClassId) (dI : Nat → Nat → Nat) (cI cL cB : ClassId) (mo : Nat) (m1 : Nat) (m2 : Nat) (m3 : Nat) (m4 : Nat) (m5 : Nat) (m6 : Nat) (m7 : Nat) (m8 : Nat) (m9 : Nat) (m10 : Nat) (m11 : Nat) (ck : Nat) (nT : Nat) (gm : Nat) (gt : Nat) (cn : Int64) (a : AS) (kk : Nat → Nat) (ky : Nat → Int64) (kd : Nat → Nat) (nu : Nat → Int64) (tb : Nat → Nat) (nx : Nat → Nat) (ot : Nat → Nat) (ch : Nat → Nat) (fi : Nat → Nat) (la : Nat → Nat) (sz : Nat → Nat) (x : Int32) (y : Int32) (hMI : MI nT a gm gt kk ky kd nu tb nx ot ch fi la sz) : QryI l y_M_same (wd y_M_same b_M_same 3 (some .int)) 3 75 (dC, dI) classes (tyK cI cL cB) [.ref mo, .int x, .int y] [(mo, .inr (3, [.ref m1, .ref m2, .ref m3, .ref m4, .ref m5, .ref m6, .ref m7, .int (nI (aN a)), .ref m8, .ref m9, .ref m10, .ref m11, .int (nI nT), .int (nI ck), .long cn])), (m1, .inl (cB, md_L gm, .inl (nf kk))), (m2, .inl (cL, md_L gm, .inr (.inl ky))), (m3, .inl (cB, md_L gm, .inl (nf kd))), (m4, .inl (cL, md_L gm, .inr (.inl nu))), (m5, .inl (cI, md_L gm, .inl (nf tb))), (m6, .inl (cI, md_L gm, .inl (nf nx))), (m7, .inl (cI, md_L gm, .inl (nf ot))), (m8, .inl (cI, 8191, .inl (nf ch))), (m9, .inl (cI, md_R gt, .inl (nf fi))), (m10, .inl (cI, md_R gt, .inl (nf la))), (m11, .inl (cI, md_R gt, .inl (nf sz)))] (fun r : Int32 => r = fSame nT a x y) := by
  obtain ⟨hMS, hMT, hgt, hRT⟩ := id hMI
  have hAI := hMS.1
  have hnT := hMS.2.1
  have hgm := hMS.2.2.1
  have hnL := hMS.2.2.2.1
  have hAg := hMS.2.2.2.2.1
  have hk8 := hMS.2.2.2.2.2.1
  have hd7 := hMS.2.2.2.2.2.2.1
  have hdz := hMS.2.2.2.2.2.2.2.1
  have hch := hMS.2.2.2.2.2.2.2.2.1
  have hot := hMS.2.2.2.2.2.2.2.2.2
  have hg1 := md_gen gm hgm
  have hg2 := md_gen gt hgt
  have hn4 := hAI.1
  refine QryI.mk (cc := b_M_same) (maxL := 3) (by decide) rfl (Nat.le_of_ble_eq_true rfl) ?_
  intro p e s m below meth c Z ls hx hb hml hown hts hP hK hret hl
  have hP : va_P (dC, dI) classes [(mo, .inr (3, [.ref m1, .ref m2, .ref m3, .ref m4, .ref m5, .ref m6, .ref m7, .int (nI (aN a)), .ref m8, .ref m9, .ref m10, .ref m11, .int (nI nT), .int (nI ck), .long cn])), (m1, .inl (cB, md_L gm, .inl (nf kk))), (m2, .inl (cL, md_L gm, .inr (.inl ky))), (m3, .inl (cB, md_L gm, .inl (nf kd))), (m4, .inl (cL, md_L gm, .inr (.inl nu))), (m5, .inl (cI, md_L gm, .inl (nf tb))), (m6, .inl (cI, md_L gm, .inl (nf nx))), (m7, .inl (cI, md_L gm, .inl (nf ot))), (m8, .inl (cI, 8191, .inl (nf ch))), (m9, .inl (cI, md_R gt, .inl (nf fi))), (m10, .inl (cI, md_R gt, .inl (nf la))), (m11, .inl (cI, md_R gt, .inl (nf sz)))] s.heap := hP
  have hown : s.vm.findClass R_M = some m.cls := hown
  have hw : ∀ x ∈ WALL, x.before _ s = true := fun x h => hts x (List.mem_cons_of_mem _ h)
  have hl : lv_has ls 3 [(0, .ref mo), (1, .int x), (2, .int y)] := hl
  refine lv_aload_n hx hb d_M_same_0 rfl (lv_at hl 0 rfl) ?_
  refine lv_iload_n hx hb d_M_same_1 rfl (lv_at hl 1 rfl) ?_
  refine QryI.callV (ci := 3) (q0 := 0) (m_isTable l dC dI cI cL cB mo m1 m2 m3 m4 m5 m6 m7 m8 m9 m10 m11 ck nT (aN a) cn x (by omega)) ⟨hx, hb, hml, hown, hw⟩ (fz_cwV 1 hw m_422 m_419 m_421 ms_19 m_4 rfl rfl (by decide +kernel) ⟨Nat.le_of_ble_eq_true rfl, Nat.le_of_ble_eq_true rfl⟩) hK hP [0] rfl rfl rfl rfl rfl hl.1 rfl (Nat.le_of_ble_eq_true rfl) d_M_same_2 ⟨(Nat.le_of_ble_eq_true rfl), (Nat.le_of_ble_eq_true rfl)⟩ (fun r2 h2 => ?_)
  obtain ⟨b2, hb2, e2, hok2⟩ := h2
  subst e2
  refine lv_if_eq (tgt := 16) hx hb d_M_same_5 (by decide) (fun c5 => ?_) (fun c5 => ?_)
  · have c5 : b2 = 0 := (nI_eq (by omega) (by omega)).mp (c5.trans nI_0.symm)
    refine lv_iconst (v := -1) hx hb d_M_same_16 (by decide) ?_
    exact hret (-1) 17 ls (by unfold fSame; rw [ifc_neg (fun h => absurd (hok2.mpr h.1) (by omega))]) d_M_same_17
  · have c5 : ¬ b2 = 0 := fun h => c5 (((nI_eq (by omega) (by omega)).mpr h).trans nI_0)
    refine lv_aload_n hx hb d_M_same_8 rfl (lv_at hl 0 rfl) ?_
    refine lv_iload_n hx hb d_M_same_9 rfl (lv_at hl 2 rfl) ?_
    refine QryI.callV (ci := 3) (q0 := 0) (m_isTable l dC dI cI cL cB mo m1 m2 m3 m4 m5 m6 m7 m8 m9 m10 m11 ck nT (aN a) cn y (by omega)) ⟨hx, hb, hml, hown, hw⟩ (fz_cwV 1 hw m_422 m_419 m_421 ms_19 m_4 rfl rfl (by decide +kernel) ⟨Nat.le_of_ble_eq_true rfl, Nat.le_of_ble_eq_true rfl⟩) hK hP [0] rfl rfl rfl rfl rfl hl.1 rfl (Nat.le_of_ble_eq_true rfl) d_M_same_10 ⟨(Nat.le_of_ble_eq_true rfl), (Nat.le_of_ble_eq_true rfl)⟩ (fun r10 h10 => ?_)
    obtain ⟨b10, hb10, e10, hok10⟩ := h10
    subst e10
    refine lv_if_ne (tgt := 18) hx hb d_M_same_13 (by decide) (fun c13 => ?_) (fun c13 => ?_)
    · have c13 : ¬ b10 = 0 := fun h => c13 (((nI_eq (by omega) (by omega)).mpr h).trans nI_0)
      obtain ⟨s, hs1, hs2, exs⟩ := hok2.mp (by omega)
      rw [exs] at hl
      obtain ⟨t, ht1, ht2, ext⟩ := hok10.mp (by omega)
      rw [ext] at hl
      refine lv_aload_n hx hb d_M_same_18 rfl (lv_at hl 0 rfl) ?_
      refine lv_iload_n hx hb d_M_same_19 rfl (lv_at hl 1 rfl) ?_
      refine lv_iload_n hx hb d_M_same_20 rfl (lv_at hl 2 rfl) ?_
      refine QryI.callV (ci := 3) (q0 := 0) (m_isIn l dC dI cI cL cB mo m1 m2 m3 m4 m5 m6 m7 m8 m9 m10 m11 ck nT gm gt cn a kk ky kd nu tb nx ot ch fi la sz s t hMI (by omega) (by omega) (by omega)) ⟨hx, hb, hml, hown, hw⟩ (fz_cwV 2 hw m_531 m_528 m_530 ms_28 m_4 rfl rfl (by decide +kernel) ⟨Nat.le_of_ble_eq_true rfl, Nat.le_of_ble_eq_true rfl⟩) hK hP [0, 1, 2, 3, 4, 5, 6, 7, 8, 9, 10, 11] rfl rfl rfl rfl rfl hl.1 rfl (Nat.le_of_ble_eq_true rfl) d_M_same_21 ⟨(Nat.le_of_ble_eq_true rfl), (Nat.le_of_ble_eq_true rfl)⟩ (fun r21 h21 => ?_)
      obtain ⟨b21, hb21, e21, hok21⟩ := h21
      subst e21
      refine lv_if_eq (tgt := 40) hx hb d_M_same_24 (by decide) (fun c24 => ?_) (fun c24 => ?_)
      · have c24 : b21 = 0 := (nI_eq (by omega) (by omega)).mp (c24.trans nI_0.symm)
        refine lv_iconst (v := nI 0) hx hb d_M_same_40 (by decide) ?_
        exact hret (nI 0) 41 ls (by unfold fSame; rw [ifc_pos ⟨hok2.mp (by omega), hok10.mp (by omega)⟩, exs, ext, tN_nI (by omega), tN_nI (by omega)]; rw [ifc_neg (fun h => absurd (hok21.mpr h.1) (by omega))]) d_M_same_41
      · have c24 : ¬ b21 = 0 := fun h => c24 (((nI_eq (by omega) (by omega)).mpr h).trans nI_0)
        refine lv_aload_n hx hb d_M_same_27 rfl (lv_at hl 0 rfl) ?_
        refine lv_iload_n hx hb d_M_same_28 rfl (lv_at hl 2 rfl) ?_
        refine lv_iload_n hx hb d_M_same_29 rfl (lv_at hl 1 rfl) ?_
        refine QryI.callV (ci := 3) (q0 := 0) (m_isIn l dC dI cI cL cB mo m1 m2 m3 m4 m5 m6 m7 m8 m9 m10 m11 ck nT gm gt cn a kk ky kd nu tb nx ot ch fi la sz t s hMI (by omega) (by omega) (by omega)) ⟨hx, hb, hml, hown, hw⟩ (fz_cwV 2 hw m_531 m_528 m_530 ms_28 m_4 rfl rfl (by decide +kernel) ⟨Nat.le_of_ble_eq_true rfl, Nat.le_of_ble_eq_true rfl⟩) hK hP [0, 1, 2, 3, 4, 5, 6, 7, 8, 9, 10, 11] rfl rfl rfl rfl rfl hl.1 rfl (Nat.le_of_ble_eq_true rfl) d_M_same_30 ⟨(Nat.le_of_ble_eq_true rfl), (Nat.le_of_ble_eq_true rfl)⟩ (fun r30 h30 => ?_)
        obtain ⟨b30, hb30, e30, hok30⟩ := h30
        subst e30
        refine lv_if_eq (tgt := 40) hx hb d_M_same_33 (by decide) (fun c33 => ?_) (fun c33 => ?_)
        · have c33 : b30 = 0 := (nI_eq (by omega) (by omega)).mp (c33.trans nI_0.symm)
          refine lv_iconst (v := nI 0) hx hb d_M_same_40 (by decide) ?_
          exact hret (nI 0) 41 ls (by unfold fSame; rw [ifc_pos ⟨hok2.mp (by omega), hok10.mp (by omega)⟩, exs, ext, tN_nI (by omega), tN_nI (by omega)]; rw [ifc_neg (fun h => absurd (hok30.mpr h.2) (by omega))]) d_M_same_41
        · have c33 : ¬ b30 = 0 := fun h => c33 (((nI_eq (by omega) (by omega)).mpr h).trans nI_0)
          refine lv_iconst (v := nI 1) hx hb d_M_same_36 (by decide) ?_
          refine lv_goto (tgt := 41) hx hb d_M_same_37 (by decide) ?_
          exact hret (nI 1) 41 ls (by unfold fSame; rw [ifc_pos ⟨hok2.mp (by omega), hok10.mp (by omega)⟩, exs, ext, tN_nI (by omega), tN_nI (by omega)]; rw [ifc_pos ⟨hok21.mp (by omega), hok30.mp (by omega)⟩]) d_M_same_41
    · have c13 : b10 = 0 := (nI_eq (by omega) (by omega)).mp (c13.trans nI_0.symm)
      refine lv_iconst (v := -1) hx hb d_M_same_16 (by decide) ?_
      exact hret (-1) 17 ls (by unfold fSame; rw [ifc_neg (fun h => absurd (hok10.mpr h.2) (by omega))]) d_M_same_17
set_option maxHeartbeats 4000000 in
set_option maxRecDepth 100000 in
/-- empty -/
theorem m_empty (l : Launch) (dC : Nat → ClassId) (dI : Nat → Nat → Nat) (cI cL cB : ClassId) (mo : Nat) (m1 : Nat) (m2 : Nat) (m3 : Nat) (m4 : Nat) (m5 : Nat) (m6 : Nat) (m7 : Nat) (m8 : Nat) (m9 : Nat) (m10 : Nat) (m11 : Nat) (ck : Nat) (nT : Nat) (gm : Nat) (gt : Nat) (cn : Int64) (a : AS) (kk : Nat → Nat) (ky : Nat → Int64) (kd : Nat → Nat) (nu : Nat → Int64) (tb : Nat → Nat) (nx : Nat → Nat) (ot : Nat → Nat) (ch : Nat → Nat) (fi : Nat → Nat) (la : Nat → Nat) (sz : Nat → Nat) (hMI : MI nT a gm gt kk ky kd nu tb nx ot ch fi la sz) : StdI l y_M_empty (wd y_M_empty b_M_empty 3 (some .int)) 0 0 0 0 (dC, dI) classes (tyK cI cL cB) [.ref mo] [(mo, .inr (3, [.ref m1, .ref m2, .ref m3, .ref m4, .ref m5, .ref m6, .ref m7, .int (nI (aN a)), .ref m8, .ref m9, .ref m10, .ref m11, .int (nI nT), .int (nI ck), .long cn])), (m1, .inl (cB, md_L gm, .inl (nf kk))), (m2, .inl (cL, md_L gm, .inr (.inl ky))), (m3, .inl (cB, md_L gm, .inl (nf kd))), (m4, .inl (cL, md_L gm, .inr (.inl nu))), (m5, .inl (cI, md_L gm, .inl (nf tb))), (m6, .inl (cI, md_L gm, .inl (nf nx))), (m7, .inl (cI, md_L gm, .inl (nf ot))), (m8, .inl (cI, 8191, .inl (nf ch))), (m9, .inl (cI, md_R gt, .inl (nf fi))), (m10, .inl (cI, md_R gt, .inl (nf la))), (m11, .inl (cI, md_R gt, .inl (nf sz)))] (fun (r : Int32) (u : (Nat → Nat) × (Nat → Nat) × (Nat → Nat) × (Nat → Nat)) => r = nI (aN a) ∧ MI 0 (emA a) gm gt kk ky kd nu tb nx ot u.1 u.2.1 u.2.2.1 u.2.2.2) (fun (u : (Nat → Nat) × (Nat → Nat) × (Nat → Nat) × (Nat → Nat)) => [(mo, .inr (3, [.ref m1, .ref m2, .ref m3, .ref m4, .ref m5, .ref m6, .ref m7, .int (nI (aN (emA a))), .ref m8, .ref m9, .ref m10, .ref m11, .int (nI 0), .int (nI 0), .long (0 : Int64)])), (m1, .inl (cB, md_L gm, .inl (nf kk))), (m2, .inl (cL, md_L gm, .inr (.inl ky))), (m3, .inl (cB, md_L gm, .inl (nf kd))), (m4, .inl (cL, md_L gm, .inr (.inl nu))), (m5, .inl (cI, md_L gm, .inl (nf tb))), (m6, .inl (cI, md_L gm, .inl (nf nx))), (m7, .inl (cI, md_L gm, .inl (nf ot))), (m8, .inl (cI, 8191, .inl (nf u.1))), (m9, .inl (cI, md_R gt, .inl (nf u.2.1))), (m10, .inl (cI, md_R gt, .inl (nf u.2.2.1))), (m11, .inl (cI, md_R gt, .inl (nf u.2.2.2)))]) := by
  obtain ⟨hMS, hMT, hgt, hRT⟩ := id hMI
  have hAI := hMS.1
  have hnT := hMS.2.1
  have hgm := hMS.2.2.1
  have hnL := hMS.2.2.2.1
  have hAg := hMS.2.2.2.2.1
  have hk8 := hMS.2.2.2.2.2.1
  have hd7 := hMS.2.2.2.2.2.2.1
  have hdz := hMS.2.2.2.2.2.2.2.1
  have hch := hMS.2.2.2.2.2.2.2.2.1
  have hot := hMS.2.2.2.2.2.2.2.2.2
  have hg1 := md_gen gm hgm
  have hg2 := md_gen gt hgt
  have hn4 := hAI.1
  refine StdI.mk (cc := b_M_empty) (maxL := 3) (by decide) rfl (Nat.le_of_ble_eq_true rfl) ?_
  intro p e s m below meth c A Z ls hx hb hml hown hts hin hP hK hD hA hS hret hl
  have hown : s.vm.findClass R_M = some m.cls := hown
  have hw : ∀ x ∈ WALL, x.before _ s = true := fun x h => hts x (List.mem_cons_of_mem _ h)
  have hl : lv_has ls 3 [(0, .ref mo)] := hl
  refine lv_aload_n hx hb d_M_empty_0 rfl (lv_at hl 0 rfl) ?_
  refine va_get (D := (dC, dI)) (ci := 3) (v := .int (nI (aN a))) (C := R_M) (T := T_M) (N := 15) hx hb hw in_M hown hK hP 0 rfl rfl 7 (by decide) (hw _ m_368) (fun _ h9 => h9) rfl d_M_empty_1 ?_
  refine lv_istore_n (lv' := [(1, .int (nI (aN a))), (0, .ref mo)]) hx hb d_M_empty_4 rfl hl (by decide) rfl (fun ls hl => ?_)
  refine lv_aload_n hx hb d_M_empty_5 rfl (lv_at hl 1 rfl) ?_
  refine lv_iconst (v := nI 0) hx hb d_M_empty_6 (by decide) ?_
  refine va_put (D := (dC, dI)) (ci := 3) (v := .int (nI 0)) (ty := .int) (C := R_M) (T := T_M) (N := 15) hx hb hw in_M ty_M tyok_M nn_M hown hK hP hD hS 0 rfl rfl 7 (by decide) (hw _ m_368) (fun _ h9 => h9) rfl (by decide +kernel) rfl rfl (Nat.le_of_ble_eq_true rfl) d_M_empty_7 (fun H locs hP hD hS => ?_)
  have hP : va_P (dC, dI) classes [(mo, .inr (3, [.ref m1, .ref m2, .ref m3, .ref m4, .ref m5, .ref m6, .ref m7, .int (nI 0), .ref m8, .ref m9, .ref m10, .ref m11, .int (nI nT), .int (nI ck), .long cn])), (m1, .inl (cB, md_L gm, .inl (nf kk))), (m2, .inl (cL, md_L gm, .inr (.inl ky))), (m3, .inl (cB, md_L gm, .inl (nf kd))), (m4, .inl (cL, md_L gm, .inr (.inl nu))), (m5, .inl (cI, md_L gm, .inl (nf tb))), (m6, .inl (cI, md_L gm, .inl (nf nx))), (m7, .inl (cI, md_L gm, .inl (nf ot))), (m8, .inl (cI, 8191, .inl (nf ch))), (m9, .inl (cI, md_R gt, .inl (nf fi))), (m10, .inl (cI, md_R gt, .inl (nf la))), (m11, .inl (cI, md_R gt, .inl (nf sz)))] H := hP
  have hD : va_D A [(mo, .inr (3, [.ref m1, .ref m2, .ref m3, .ref m4, .ref m5, .ref m6, .ref m7, .int (nI 0), .ref m8, .ref m9, .ref m10, .ref m11, .int (nI nT), .int (nI ck), .long cn])), (m1, .inl (cB, md_L gm, .inl (nf kk))), (m2, .inl (cL, md_L gm, .inr (.inl ky))), (m3, .inl (cB, md_L gm, .inl (nf kd))), (m4, .inl (cL, md_L gm, .inr (.inl nu))), (m5, .inl (cI, md_L gm, .inl (nf tb))), (m6, .inl (cI, md_L gm, .inl (nf nx))), (m7, .inl (cI, md_L gm, .inl (nf ot))), (m8, .inl (cI, 8191, .inl (nf ch))), (m9, .inl (cI, md_R gt, .inl (nf fi))), (m10, .inl (cI, md_R gt, .inl (nf la))), (m11, .inl (cI, md_R gt, .inl (nf sz)))] := hD
  refine lv_aload_n hx hb d_M_empty_10 rfl (lv_at hl 1 rfl) ?_
  refine lv_iconst (v := nI 0) hx hb d_M_empty_11 (by decide) ?_
  refine va_put (D := (dC, dI)) (ci := 3) (v := .int (nI 0)) (ty := .int) (C := R_M) (T := T_M) (N := 15) hx hb hw in_M ty_M tyok_M nn_M hown hK hP hD hS 0 rfl rfl 12 (by decide) (hw _ m_373) (fun _ h9 => h9) rfl (by decide +kernel) rfl rfl (Nat.le_of_ble_eq_true rfl) d_M_empty_12 (fun H locs hP hD hS => ?_)
  have hP : va_P (dC, dI) classes [(mo, .inr (3, [.ref m1, .ref m2, .ref m3, .ref m4, .ref m5, .ref m6, .ref m7, .int (nI 0), .ref m8, .ref m9, .ref m10, .ref m11, .int (nI 0), .int (nI ck), .long cn])), (m1, .inl (cB, md_L gm, .inl (nf kk))), (m2, .inl (cL, md_L gm, .inr (.inl ky))), (m3, .inl (cB, md_L gm, .inl (nf kd))), (m4, .inl (cL, md_L gm, .inr (.inl nu))), (m5, .inl (cI, md_L gm, .inl (nf tb))), (m6, .inl (cI, md_L gm, .inl (nf nx))), (m7, .inl (cI, md_L gm, .inl (nf ot))), (m8, .inl (cI, 8191, .inl (nf ch))), (m9, .inl (cI, md_R gt, .inl (nf fi))), (m10, .inl (cI, md_R gt, .inl (nf la))), (m11, .inl (cI, md_R gt, .inl (nf sz)))] H := hP
  have hD : va_D A [(mo, .inr (3, [.ref m1, .ref m2, .ref m3, .ref m4, .ref m5, .ref m6, .ref m7, .int (nI 0), .ref m8, .ref m9, .ref m10, .ref m11, .int (nI 0), .int (nI ck), .long cn])), (m1, .inl (cB, md_L gm, .inl (nf kk))), (m2, .inl (cL, md_L gm, .inr (.inl ky))), (m3, .inl (cB, md_L gm, .inl (nf kd))), (m4, .inl (cL, md_L gm, .inr (.inl nu))), (m5, .inl (cI, md_L gm, .inl (nf tb))), (m6, .inl (cI, md_L gm, .inl (nf nx))), (m7, .inl (cI, md_L gm, .inl (nf ot))), (m8, .inl (cI, 8191, .inl (nf ch))), (m9, .inl (cI, md_R gt, .inl (nf fi))), (m10, .inl (cI, md_R gt, .inl (nf la))), (m11, .inl (cI, md_R gt, .inl (nf sz)))] := hD
  refine lv_aload_n hx hb d_M_empty_15 rfl (lv_at hl 1 rfl) ?_
  refine lv_iconst (v := nI 0) hx hb d_M_empty_16 (by decide) ?_
  refine va_put (D := (dC, dI)) (ci := 3) (v := .int (nI 0)) (ty := .int) (C := R_M) (T := T_M) (N := 15) hx hb hw in_M ty_M tyok_M nn_M hown hK hP hD hS 0 rfl rfl 13 (by decide) (hw _ m_374) (fun _ h9 => h9) rfl (by decide +kernel) rfl rfl (Nat.le_of_ble_eq_true rfl) d_M_empty_17 (fun H locs hP hD hS => ?_)
  have hP : va_P (dC, dI) classes [(mo, .inr (3, [.ref m1, .ref m2, .ref m3, .ref m4, .ref m5, .ref m6, .ref m7, .int (nI 0), .ref m8, .ref m9, .ref m10, .ref m11, .int (nI 0), .int (nI 0), .long cn])), (m1, .inl (cB, md_L gm, .inl (nf kk))), (m2, .inl (cL, md_L gm, .inr (.inl ky))), (m3, .inl (cB, md_L gm, .inl (nf kd))), (m4, .inl (cL, md_L gm, .inr (.inl nu))), (m5, .inl (cI, md_L gm, .inl (nf tb))), (m6, .inl (cI, md_L gm, .inl (nf nx))), (m7, .inl (cI, md_L gm, .inl (nf ot))), (m8, .inl (cI, 8191, .inl (nf ch))), (m9, .inl (cI, md_R gt, .inl (nf fi))), (m10, .inl (cI, md_R gt, .inl (nf la))), (m11, .inl (cI, md_R gt, .inl (nf sz)))] H := hP
  have hD : va_D A [(mo, .inr (3, [.ref m1, .ref m2, .ref m3, .ref m4, .ref m5, .ref m6, .ref m7, .int (nI 0), .ref m8, .ref m9, .ref m10, .ref m11, .int (nI 0), .int (nI 0), .long cn])), (m1, .inl (cB, md_L gm, .inl (nf kk))), (m2, .inl (cL, md_L gm, .inr (.inl ky))), (m3, .inl (cB, md_L gm, .inl (nf kd))), (m4, .inl (cL, md_L gm, .inr (.inl nu))), (m5, .inl (cI, md_L gm, .inl (nf tb))), (m6, .inl (cI, md_L gm, .inl (nf nx))), (m7, .inl (cI, md_L gm, .inl (nf ot))), (m8, .inl (cI, 8191, .inl (nf ch))), (m9, .inl (cI, md_R gt, .inl (nf fi))), (m10, .inl (cI, md_R gt, .inl (nf la))), (m11, .inl (cI, md_R gt, .inl (nf sz)))] := hD
  refine lv_aload_n hx hb d_M_empty_20 rfl (lv_at hl 1 rfl) ?_
  refine lv_lconst (v := lN 0) hx hb d_M_empty_21 rfl ?_
  refine va_put (D := (dC, dI)) (ci := 3) (v := .long (lN 0)) (ty := .long) (C := R_M) (T := T_M) (N := 15) hx hb hw in_M ty_M tyok_M nn_M hown hK hP hD hS 0 rfl rfl 14 (by decide) (hw _ m_375) (fun _ h9 => h9) rfl (by decide +kernel) rfl rfl (Nat.le_of_ble_eq_true rfl) d_M_empty_22 (fun H locs hP hD hS => ?_)
  have hP : va_P (dC, dI) classes [(mo, .inr (3, [.ref m1, .ref m2, .ref m3, .ref m4, .ref m5, .ref m6, .ref m7, .int (nI 0), .ref m8, .ref m9, .ref m10, .ref m11, .int (nI 0), .int (nI 0), .long (lN 0)])), (m1, .inl (cB, md_L gm, .inl (nf kk))), (m2, .inl (cL, md_L gm, .inr (.inl ky))), (m3, .inl (cB, md_L gm, .inl (nf kd))), (m4, .inl (cL, md_L gm, .inr (.inl nu))), (m5, .inl (cI, md_L gm, .inl (nf tb))), (m6, .inl (cI, md_L gm, .inl (nf nx))), (m7, .inl (cI, md_L gm, .inl (nf ot))), (m8, .inl (cI, 8191, .inl (nf ch))), (m9, .inl (cI, md_R gt, .inl (nf fi))), (m10, .inl (cI, md_R gt, .inl (nf la))), (m11, .inl (cI, md_R gt, .inl (nf sz)))] H := hP
  have hD : va_D A [(mo, .inr (3, [.ref m1, .ref m2, .ref m3, .ref m4, .ref m5, .ref m6, .ref m7, .int (nI 0), .ref m8, .ref m9, .ref m10, .ref m11, .int (nI 0), .int (nI 0), .long (lN 0)])), (m1, .inl (cB, md_L gm, .inl (nf kk))), (m2, .inl (cL, md_L gm, .inr (.inl ky))), (m3, .inl (cB, md_L gm, .inl (nf kd))), (m4, .inl (cL, md_L gm, .inr (.inl nu))), (m5, .inl (cI, md_L gm, .inl (nf tb))), (m6, .inl (cI, md_L gm, .inl (nf nx))), (m7, .inl (cI, md_L gm, .inl (nf ot))), (m8, .inl (cI, 8191, .inl (nf ch))), (m9, .inl (cI, md_R gt, .inl (nf fi))), (m10, .inl (cI, md_R gt, .inl (nf la))), (m11, .inl (cI, md_R gt, .inl (nf sz)))] := hD
  refine lv_iconst (v := nI 0) hx hb d_M_empty_25 (by decide) ?_
  refine lv_istore_n (lv' := [(2, .int (nI 0)), (1, .int (nI (aN a))), (0, .ref mo)]) hx hb d_M_empty_26 rfl hl (by decide) rfl (fun ls hl => ?_)
  have loop_27 : ∀ (fuel : Nat) (j : Nat) (ch1 : Nat → Nat), j ≤ 8191 → ch1 = cpz (fun _ => 0) ch j → 8191 - j < fuel → ∀ (H : Heap) (locs : List Loc), va_P (dC, dI) classes [(mo, .inr (3, [.ref m1, .ref m2, .ref m3, .ref m4, .ref m5, .ref m6, .ref m7, .int (nI 0), .ref m8, .ref m9, .ref m10, .ref m11, .int (nI 0), .int (nI 0), .long (lN 0)])), (m1, .inl (cB, md_L gm, .inl (nf kk))), (m2, .inl (cL, md_L gm, .inr (.inl ky))), (m3, .inl (cB, md_L gm, .inl (nf kd))), (m4, .inl (cL, md_L gm, .inr (.inl nu))), (m5, .inl (cI, md_L gm, .inl (nf tb))), (m6, .inl (cI, md_L gm, .inl (nf nx))), (m7, .inl (cI, md_L gm, .inl (nf ot))), (m8, .inl (cI, 8191, .inl (nf ch1))), (m9, .inl (cI, md_R gt, .inl (nf fi))), (m10, .inl (cI, md_R gt, .inl (nf la))), (m11, .inl (cI, md_R gt, .inl (nf sz)))] H → va_D A [(mo, .inr (3, [.ref m1, .ref m2, .ref m3, .ref m4, .ref m5, .ref m6, .ref m7, .int (nI 0), .ref m8, .ref m9, .ref m10, .ref m11, .int (nI 0), .int (nI 0), .long (lN 0)])), (m1, .inl (cB, md_L gm, .inl (nf kk))), (m2, .inl (cL, md_L gm, .inr (.inl ky))), (m3, .inl (cB, md_L gm, .inl (nf kd))), (m4, .inl (cL, md_L gm, .inr (.inl nu))), (m5, .inl (cI, md_L gm, .inl (nf tb))), (m6, .inl (cI, md_L gm, .inl (nf nx))), (m7, .inl (cI, md_L gm, .inl (nf ot))), (m8, .inl (cI, 8191, .inl (nf ch1))), (m9, .inl (cI, md_R gt, .inl (nf fi))), (m10, .inl (cI, md_R gt, .inl (nf la))), (m11, .inl (cI, md_R gt, .inl (nf sz)))] → va_S A s.heap H locs → ∀ (ls : Array Slot), lv_has ls 3 [(0, .ref mo), (1, .int (nI (aN a))), (2, .int (nI j))] → W p l e { frames := 0, cells := 0, slots := 0, locals := 0 } s m [.ref mo].toArray below meth c H locs 0 0 Z (F0 m 27 ls []) := by
    intro fuel
    induction fuel with
    | zero => intro j ch1 hj hc1 hfuel; exact absurd hfuel (Nat.not_lt_zero _)
    | succ fuel ih =>
      intro j ch1 hj hc1 hfuel H locs hP hD hS ls hl
      refine lv_iload_n hx hb d_M_empty_27 rfl (lv_at hl 2 rfl) ?_
      refine lv_sipush (v := nI 8191) hx hb d_M_empty_28 (by decide) ?_
      refine lv_icmp_ge (tgt := 47) hx hb d_M_empty_31 (by decide) (fun c31 => ?_) (fun c31 => ?_)
      · have c31 : 8191 ≤ j := by exact (nI_leI (by omega) (by omega)).mp c31
        have ej1 : j = 8191 := by omega
        rw [hc1, ej1] at hP hD
        have hP : va_P (dC, dI) classes [(mo, .inr (3, [.ref m1, .ref m2, .ref m3, .ref m4, .ref m5, .ref m6, .ref m7, .int (nI 0), .ref m8, .ref m9, .ref m10, .ref m11, .int (nI 0), .int (nI 0), .long (lN 0)])), (m1, .inl (cB, md_L gm, .inl (nf kk))), (m2, .inl (cL, md_L gm, .inr (.inl ky))), (m3, .inl (cB, md_L gm, .inl (nf kd))), (m4, .inl (cL, md_L gm, .inr (.inl nu))), (m5, .inl (cI, md_L gm, .inl (nf tb))), (m6, .inl (cI, md_L gm, .inl (nf nx))), (m7, .inl (cI, md_L gm, .inl (nf ot))), (m8, .inl (cI, 8191, .inl (nf (cpz (fun _ => 0) ch 8191)))), (m9, .inl (cI, md_R gt, .inl (nf fi))), (m10, .inl (cI, md_R gt, .inl (nf la))), (m11, .inl (cI, md_R gt, .inl (nf sz)))] H := hP
        have hD : va_D A [(mo, .inr (3, [.ref m1, .ref m2, .ref m3, .ref m4, .ref m5, .ref m6, .ref m7, .int (nI 0), .ref m8, .ref m9, .ref m10, .ref m11, .int (nI 0), .int (nI 0), .long (lN 0)])), (m1, .inl (cB, md_L gm, .inl (nf kk))), (m2, .inl (cL, md_L gm, .inr (.inl ky))), (m3, .inl (cB, md_L gm, .inl (nf kd))), (m4, .inl (cL, md_L gm, .inr (.inl nu))), (m5, .inl (cI, md_L gm, .inl (nf tb))), (m6, .inl (cI, md_L gm, .inl (nf nx))), (m7, .inl (cI, md_L gm, .inl (nf ot))), (m8, .inl (cI, 8191, .inl (nf (cpz (fun _ => 0) ch 8191)))), (m9, .inl (cI, md_R gt, .inl (nf fi))), (m10, .inl (cI, md_R gt, .inl (nf la))), (m11, .inl (cI, md_R gt, .inl (nf sz)))] := hD
        refine lv_iconst (v := nI 0) hx hb d_M_empty_47 (by decide) ?_
        refine lv_istore_n (lv' := [(2, .int (nI 0)), (0, .ref mo), (1, .int (nI (aN a)))]) hx hb d_M_empty_48 rfl hl (by decide) rfl (fun ls hl => ?_)
        have loop_49 : ∀ (fuel : Nat) (j : Nat) (fi1 : Nat → Nat) (la1 : Nat → Nat) (sz1 : Nat → Nat), j ≤ md_R gt → fi1 = cpz (fun _ => 0) fi j → la1 = cpz (fun _ => 0) la j → sz1 = cpz (fun _ => 0) sz j → md_R gt - j < fuel → ∀ (H : Heap) (locs : List Loc), va_P (dC, dI) classes [(mo, .inr (3, [.ref m1, .ref m2, .ref m3, .ref m4, .ref m5, .ref m6, .ref m7, .int (nI 0), .ref m8, .ref m9, .ref m10, .ref m11, .int (nI 0), .int (nI 0), .long (lN 0)])), (m1, .inl (cB, md_L gm, .inl (nf kk))), (m2, .inl (cL, md_L gm, .inr (.inl ky))), (m3, .inl (cB, md_L gm, .inl (nf kd))), (m4, .inl (cL, md_L gm, .inr (.inl nu))), (m5, .inl (cI, md_L gm, .inl (nf tb))), (m6, .inl (cI, md_L gm, .inl (nf nx))), (m7, .inl (cI, md_L gm, .inl (nf ot))), (m8, .inl (cI, 8191, .inl (nf (cpz (fun _ => 0) ch 8191)))), (m9, .inl (cI, md_R gt, .inl (nf fi1))), (m10, .inl (cI, md_R gt, .inl (nf la1))), (m11, .inl (cI, md_R gt, .inl (nf sz1)))] H → va_D A [(mo, .inr (3, [.ref m1, .ref m2, .ref m3, .ref m4, .ref m5, .ref m6, .ref m7, .int (nI 0), .ref m8, .ref m9, .ref m10, .ref m11, .int (nI 0), .int (nI 0), .long (lN 0)])), (m1, .inl (cB, md_L gm, .inl (nf kk))), (m2, .inl (cL, md_L gm, .inr (.inl ky))), (m3, .inl (cB, md_L gm, .inl (nf kd))), (m4, .inl (cL, md_L gm, .inr (.inl nu))), (m5, .inl (cI, md_L gm, .inl (nf tb))), (m6, .inl (cI, md_L gm, .inl (nf nx))), (m7, .inl (cI, md_L gm, .inl (nf ot))), (m8, .inl (cI, 8191, .inl (nf (cpz (fun _ => 0) ch 8191)))), (m9, .inl (cI, md_R gt, .inl (nf fi1))), (m10, .inl (cI, md_R gt, .inl (nf la1))), (m11, .inl (cI, md_R gt, .inl (nf sz1)))] → va_S A s.heap H locs → ∀ (ls : Array Slot), lv_has ls 3 [(0, .ref mo), (1, .int (nI (aN a))), (2, .int (nI j))] → W p l e { frames := 0, cells := 0, slots := 0, locals := 0 } s m [.ref mo].toArray below meth c H locs 0 0 Z (F0 m 49 ls []) := by
          intro fuel
          induction fuel with
          | zero => intro j fi1 la1 sz1 hj hf1 hl1 hs1 hfuel; exact absurd hfuel (Nat.not_lt_zero _)
          | succ fuel ih =>
            intro j fi1 la1 sz1 hj hf1 hl1 hs1 hfuel H locs hP hD hS ls hl
            refine lv_iload_n hx hb d_M_empty_49 rfl (lv_at hl 2 rfl) ?_
            refine lv_aload_n hx hb d_M_empty_50 rfl (lv_at hl 0 rfl) ?_
            refine va_get (D := (dC, dI)) (ci := 3) (v := .ref m11) (C := R_M) (T := T_M) (N := 15) hx hb hw in_M hown hK hP 0 rfl rfl 11 (by decide) (hw _ m_372) (fun _ h9 => h9) rfl d_M_empty_51 ?_
            refine fz_alen hx hb hK hP 11 0 rfl rfl d_M_empty_54 ?_
            refine lv_icmp_ge (tgt := 85) hx hb d_M_empty_55 (by decide) (fun c55 => ?_) (fun c55 => ?_)
            · have c55 : md_R gt ≤ j := by exact (nI_leI (by omega) (by omega)).mp c55
              have ej2 : j = md_R gt := by omega
              refine lv_iload_n hx hb d_M_empty_85 rfl (lv_at hl 1 rfl) ?_
              have hpost : (nI (aN a)) = nI (aN a) ∧ MI 0 (emA a) gm gt kk ky kd nu tb nx ot (cpz (fun _ => 0) ch 8191) fi1 la1 sz1 := ⟨rfl, hMI.em (fun c hc => cpz_in hc) (fun t => by
                rw [hf1, hl1, hs1, ej2]; unfold cpz
                by_cases z : t < md_R gt
                · rw [if_pos z, if_pos z, if_pos z]; exact ⟨rfl, rfl, rfl⟩
                · rw [if_neg z, if_neg z, if_neg z]; exact hMT.2.2 t (by omega))⟩
              exact hret (nI (aN a)) (cpz (fun _ => 0) ch 8191, fi1, la1, sz1) _ _ 86 ls hpost hP hD hS d_M_empty_86
            · have c55 : ¬ md_R gt ≤ j := fun h => c55 (by exact (nI_leI (by omega) (by omega)).mpr h)
              refine lv_aload_n hx hb d_M_empty_58 rfl (lv_at hl 0 rfl) ?_
              refine va_get (D := (dC, dI)) (ci := 3) (v := .ref m9) (C := R_M) (T := T_M) (N := 15) hx hb hw in_M hown hK hP 0 rfl rfl 9 (by decide) (hw _ m_370) (fun _ h9 => h9) rfl d_M_empty_59 ?_
              refine lv_iload_n hx hb d_M_empty_62 rfl (lv_at hl 2 rfl) ?_
              refine lv_iconst (v := nI 0) hx hb d_M_empty_63 (by decide) ?_
              refine fz_iast hx hb hK hP hD hS 9 0 rfl rfl (j := j) (by omega) (by omega) d_M_empty_64 (fun H locs hP hD hS => ?_)
              have hP : va_P (dC, dI) classes [(mo, .inr (3, [.ref m1, .ref m2, .ref m3, .ref m4, .ref m5, .ref m6, .ref m7, .int (nI 0), .ref m8, .ref m9, .ref m10, .ref m11, .int (nI 0), .int (nI 0), .long (lN 0)])), (m1, .inl (cB, md_L gm, .inl (nf kk))), (m2, .inl (cL, md_L gm, .inr (.inl ky))), (m3, .inl (cB, md_L gm, .inl (nf kd))), (m4, .inl (cL, md_L gm, .inr (.inl nu))), (m5, .inl (cI, md_L gm, .inl (nf tb))), (m6, .inl (cI, md_L gm, .inl (nf nx))), (m7, .inl (cI, md_L gm, .inl (nf ot))), (m8, .inl (cI, 8191, .inl (nf (cpz (fun _ => 0) ch 8191)))), (m9, .inl (cI, md_R gt, .inl (nf (va_up fi1 j 0)))), (m10, .inl (cI, md_R gt, .inl (nf la1))), (m11, .inl (cI, md_R gt, .inl (nf sz1)))] H := hP
              have hD : va_D A [(mo, .inr (3, [.ref m1, .ref m2, .ref m3, .ref m4, .ref m5, .ref m6, .ref m7, .int (nI 0), .ref m8, .ref m9, .ref m10, .ref m11, .int (nI 0), .int (nI 0), .long (lN 0)])), (m1, .inl (cB, md_L gm, .inl (nf kk))), (m2, .inl (cL, md_L gm, .inr (.inl ky))), (m3, .inl (cB, md_L gm, .inl (nf kd))), (m4, .inl (cL, md_L gm, .inr (.inl nu))), (m5, .inl (cI, md_L gm, .inl (nf tb))), (m6, .inl (cI, md_L gm, .inl (nf nx))), (m7, .inl (cI, md_L gm, .inl (nf ot))), (m8, .inl (cI, 8191, .inl (nf (cpz (fun _ => 0) ch 8191)))), (m9, .inl (cI, md_R gt, .inl (nf (va_up fi1 j 0)))), (m10, .inl (cI, md_R gt, .inl (nf la1))), (m11, .inl (cI, md_R gt, .inl (nf sz1)))] := hD
              refine lv_aload_n hx hb d_M_empty_65 rfl (lv_at hl 0 rfl) ?_
              refine va_get (D := (dC, dI)) (ci := 3) (v := .ref m10) (C := R_M) (T := T_M) (N := 15) hx hb hw in_M hown hK hP 0 rfl rfl 10 (by decide) (hw _ m_371) (fun _ h9 => h9) rfl d_M_empty_66 ?_
              refine lv_iload_n hx hb d_M_empty_69 rfl (lv_at hl 2 rfl) ?_
              refine lv_iconst (v := nI 0) hx hb d_M_empty_70 (by decide) ?_
              refine fz_iast hx hb hK hP hD hS 10 0 rfl rfl (j := j) (by omega) (by omega) d_M_empty_71 (fun H locs hP hD hS => ?_)
              have hP : va_P (dC, dI) classes [(mo, .inr (3, [.ref m1, .ref m2, .ref m3, .ref m4, .ref m5, .ref m6, .ref m7, .int (nI 0), .ref m8, .ref m9, .ref m10, .ref m11, .int (nI 0), .int (nI 0), .long (lN 0)])), (m1, .inl (cB, md_L gm, .inl (nf kk))), (m2, .inl (cL, md_L gm, .inr (.inl ky))), (m3, .inl (cB, md_L gm, .inl (nf kd))), (m4, .inl (cL, md_L gm, .inr (.inl nu))), (m5, .inl (cI, md_L gm, .inl (nf tb))), (m6, .inl (cI, md_L gm, .inl (nf nx))), (m7, .inl (cI, md_L gm, .inl (nf ot))), (m8, .inl (cI, 8191, .inl (nf (cpz (fun _ => 0) ch 8191)))), (m9, .inl (cI, md_R gt, .inl (nf (va_up fi1 j 0)))), (m10, .inl (cI, md_R gt, .inl (nf (va_up la1 j 0)))), (m11, .inl (cI, md_R gt, .inl (nf sz1)))] H := hP
              have hD : va_D A [(mo, .inr (3, [.ref m1, .ref m2, .ref m3, .ref m4, .ref m5, .ref m6, .ref m7, .int (nI 0), .ref m8, .ref m9, .ref m10, .ref m11, .int (nI 0), .int (nI 0), .long (lN 0)])), (m1, .inl (cB, md_L gm, .inl (nf kk))), (m2, .inl (cL, md_L gm, .inr (.inl ky))), (m3, .inl (cB, md_L gm, .inl (nf kd))), (m4, .inl (cL, md_L gm, .inr (.inl nu))), (m5, .inl (cI, md_L gm, .inl (nf tb))), (m6, .inl (cI, md_L gm, .inl (nf nx))), (m7, .inl (cI, md_L gm, .inl (nf ot))), (m8, .inl (cI, 8191, .inl (nf (cpz (fun _ => 0) ch 8191)))), (m9, .inl (cI, md_R gt, .inl (nf (va_up fi1 j 0)))), (m10, .inl (cI, md_R gt, .inl (nf (va_up la1 j 0)))), (m11, .inl (cI, md_R gt, .inl (nf sz1)))] := hD
              refine lv_aload_n hx hb d_M_empty_72 rfl (lv_at hl 0 rfl) ?_
              refine va_get (D := (dC, dI)) (ci := 3) (v := .ref m11) (C := R_M) (T := T_M) (N := 15) hx hb hw in_M hown hK hP 0 rfl rfl 11 (by decide) (hw _ m_372) (fun _ h9 => h9) rfl d_M_empty_73 ?_
              refine lv_iload_n hx hb d_M_empty_76 rfl (lv_at hl 2 rfl) ?_
              refine lv_iconst (v := nI 0) hx hb d_M_empty_77 (by decide) ?_
              refine fz_iast hx hb hK hP hD hS 11 0 rfl rfl (j := j) (by omega) (by omega) d_M_empty_78 (fun H locs hP hD hS => ?_)
              have hP : va_P (dC, dI) classes [(mo, .inr (3, [.ref m1, .ref m2, .ref m3, .ref m4, .ref m5, .ref m6, .ref m7, .int (nI 0), .ref m8, .ref m9, .ref m10, .ref m11, .int (nI 0), .int (nI 0), .long (lN 0)])), (m1, .inl (cB, md_L gm, .inl (nf kk))), (m2, .inl (cL, md_L gm, .inr (.inl ky))), (m3, .inl (cB, md_L gm, .inl (nf kd))), (m4, .inl (cL, md_L gm, .inr (.inl nu))), (m5, .inl (cI, md_L gm, .inl (nf tb))), (m6, .inl (cI, md_L gm, .inl (nf nx))), (m7, .inl (cI, md_L gm, .inl (nf ot))), (m8, .inl (cI, 8191, .inl (nf (cpz (fun _ => 0) ch 8191)))), (m9, .inl (cI, md_R gt, .inl (nf (va_up fi1 j 0)))), (m10, .inl (cI, md_R gt, .inl (nf (va_up la1 j 0)))), (m11, .inl (cI, md_R gt, .inl (nf (va_up sz1 j 0))))] H := hP
              have hD : va_D A [(mo, .inr (3, [.ref m1, .ref m2, .ref m3, .ref m4, .ref m5, .ref m6, .ref m7, .int (nI 0), .ref m8, .ref m9, .ref m10, .ref m11, .int (nI 0), .int (nI 0), .long (lN 0)])), (m1, .inl (cB, md_L gm, .inl (nf kk))), (m2, .inl (cL, md_L gm, .inr (.inl ky))), (m3, .inl (cB, md_L gm, .inl (nf kd))), (m4, .inl (cL, md_L gm, .inr (.inl nu))), (m5, .inl (cI, md_L gm, .inl (nf tb))), (m6, .inl (cI, md_L gm, .inl (nf nx))), (m7, .inl (cI, md_L gm, .inl (nf ot))), (m8, .inl (cI, 8191, .inl (nf (cpz (fun _ => 0) ch 8191)))), (m9, .inl (cI, md_R gt, .inl (nf (va_up fi1 j 0)))), (m10, .inl (cI, md_R gt, .inl (nf (va_up la1 j 0)))), (m11, .inl (cI, md_R gt, .inl (nf (va_up sz1 j 0))))] := hD
              refine lv_iinc (v := nI (j + 1)) (lv' := [(2, .int (nI (j + 1))), (0, .ref mo), (1, .int (nI (aN a)))]) hx hb d_M_empty_79 hl (k := 2) rfl (fz_inc j) (by decide) rfl (fun ls hl => ?_)
              refine lv_goto (tgt := 49) hx hb d_M_empty_82 (by decide) ?_
              exact ih (j + 1) (va_up fi1 j 0) (va_up la1 j 0) (va_up sz1 j 0) (by omega) (by rw [hf1, cpz_step]) (by rw [hl1, cpz_step]) (by rw [hs1, cpz_step]) (by omega) _ _ hP hD hS ls (lv_sub hl [1, 2, 0] rfl)
        exact loop_49 (md_R gt - 0 + 1) 0 fi la sz (by omega) (cpz_0 _ _).symm (cpz_0 _ _).symm (cpz_0 _ _).symm (Nat.lt_succ_self _) _ _ hP hD hS ls (lv_sub hl [1, 2, 0] rfl)
      · have c31 : ¬ 8191 ≤ j := fun h => c31 (by exact (nI_leI (by omega) (by omega)).mpr h)
        refine lv_aload_n hx hb d_M_empty_34 rfl (lv_at hl 0 rfl) ?_
        refine va_get (D := (dC, dI)) (ci := 3) (v := .ref m8) (C := R_M) (T := T_M) (N := 15) hx hb hw in_M hown hK hP 0 rfl rfl 8 (by decide) (hw _ m_369) (fun _ h9 => h9) rfl d_M_empty_35 ?_
        refine lv_iload_n hx hb d_M_empty_38 rfl (lv_at hl 2 rfl) ?_
        refine lv_iconst (v := nI 0) hx hb d_M_empty_39 (by decide) ?_
        refine fz_iast hx hb hK hP hD hS 8 0 rfl rfl (j := j) (by omega) (by omega) d_M_empty_40 (fun H locs hP hD hS => ?_)
        have hP : va_P (dC, dI) classes [(mo, .inr (3, [.ref m1, .ref m2, .ref m3, .ref m4, .ref m5, .ref m6, .ref m7, .int (nI 0), .ref m8, .ref m9, .ref m10, .ref m11, .int (nI 0), .int (nI 0), .long (lN 0)])), (m1, .inl (cB, md_L gm, .inl (nf kk))), (m2, .inl (cL, md_L gm, .inr (.inl ky))), (m3, .inl (cB, md_L gm, .inl (nf kd))), (m4, .inl (cL, md_L gm, .inr (.inl nu))), (m5, .inl (cI, md_L gm, .inl (nf tb))), (m6, .inl (cI, md_L gm, .inl (nf nx))), (m7, .inl (cI, md_L gm, .inl (nf ot))), (m8, .inl (cI, 8191, .inl (nf (va_up ch1 j 0)))), (m9, .inl (cI, md_R gt, .inl (nf fi))), (m10, .inl (cI, md_R gt, .inl (nf la))), (m11, .inl (cI, md_R gt, .inl (nf sz)))] H := hP
        have hD : va_D A [(mo, .inr (3, [.ref m1, .ref m2, .ref m3, .ref m4, .ref m5, .ref m6, .ref m7, .int (nI 0), .ref m8, .ref m9, .ref m10, .ref m11, .int (nI 0), .int (nI 0), .long (lN 0)])), (m1, .inl (cB, md_L gm, .inl (nf kk))), (m2, .inl (cL, md_L gm, .inr (.inl ky))), (m3, .inl (cB, md_L gm, .inl (nf kd))), (m4, .inl (cL, md_L gm, .inr (.inl nu))), (m5, .inl (cI, md_L gm, .inl (nf tb))), (m6, .inl (cI, md_L gm, .inl (nf nx))), (m7, .inl (cI, md_L gm, .inl (nf ot))), (m8, .inl (cI, 8191, .inl (nf (va_up ch1 j 0)))), (m9, .inl (cI, md_R gt, .inl (nf fi))), (m10, .inl (cI, md_R gt, .inl (nf la))), (m11, .inl (cI, md_R gt, .inl (nf sz)))] := hD
        refine lv_iinc (v := nI (j + 1)) (lv' := [(2, .int (nI (j + 1))), (0, .ref mo), (1, .int (nI (aN a)))]) hx hb d_M_empty_41 hl (k := 2) rfl (fz_inc j) (by decide) rfl (fun ls hl => ?_)
        refine lv_goto (tgt := 27) hx hb d_M_empty_44 (by decide) ?_
        exact ih (j + 1) (va_up ch1 j 0) (by omega) (by rw [hc1, cpz_step]) (by omega) _ _ hP hD hS ls (lv_sub hl [1, 2, 0] rfl)
  exact loop_27 (8191 - 0 + 1) 0 ch (by omega) (cpz_0 _ _).symm (Nat.lt_succ_self _) _ _ hP hD hS ls (lv_sub hl [2, 1, 0] rfl)
set_option maxHeartbeats 4000000 in
set_option maxRecDepth 100000 in
/-- make -/
theorem m_make (l : Launch) (dC : Nat → ClassId) (dI : Nat → Nat → Nat) (cI cL cB : ClassId) (mo : Nat) (m1 : Nat) (m2 : Nat) (m3 : Nat) (m4 : Nat) (m5 : Nat) (m6 : Nat) (m7 : Nat) (m8 : Nat) (m9 : Nat) (m10 : Nat) (m11 : Nat) (ck : Nat) (nT : Nat) (gm : Nat) (gt : Nat) (cn : Int64) (a : AS) (kk : Nat → Nat) (ky : Nat → Int64) (kd : Nat → Nat) (nu : Nat → Int64) (tb : Nat → Nat) (nx : Nat → Nat) (ot : Nat → Nat) (ch : Nat → Nat) (fi : Nat → Nat) (la : Nat → Nat) (sz : Nat → Nat) (hMI : MI nT a gm gt kk ky kd nu tb nx ot ch fi la sz) : StdI l y_M_make (wd y_M_make b_M_make 1 (some .int)) 2 49 (3 * (mR gt (fMake nT).2 - gt)) (Mt (mR gt (fMake nT).2) - Mt gt) (dC, dI) classes (tyK cI cL cB) [.ref mo] [(mo, .inr (3, [.ref m1, .ref m2, .ref m3, .ref m4, .ref m5, .ref m6, .ref m7, .int (nI (aN a)), .ref m8, .ref m9, .ref m10, .ref m11, .int (nI nT), .int (nI ck), .long cn])), (m1, .inl (cB, md_L gm, .inl (nf kk))), (m2, .inl (cL, md_L gm, .inr (.inl ky))), (m3, .inl (cB, md_L gm, .inl (nf kd))), (m4, .inl (cL, md_L gm, .inr (.inl nu))), (m5, .inl (cI, md_L gm, .inl (nf tb))), (m6, .inl (cI, md_L gm, .inl (nf nx))), (m7, .inl (cI, md_L gm, .inl (nf ot))), (m8, .inl (cI, 8191, .inl (nf ch))), (m9, .inl (cI, md_R gt, .inl (nf fi))), (m10, .inl (cI, md_R gt, .inl (nf la))), (m11, .inl (cI, md_R gt, .inl (nf sz)))] (fun (r : Int32) (u : Nat × Nat × Nat) => r = (fMake nT).1 ∧ MI (fMake nT).2 a gm (mR gt (fMake nT).2) kk ky kd nu tb nx ot ch fi la sz) (fun (u : Nat × Nat × Nat) => [(mo, .inr (3, [.ref m1, .ref m2, .ref m3, .ref m4, .ref m5, .ref m6, .ref m7, .int (nI (aN a)), .ref m8, .ref u.1, .ref u.2.1, .ref u.2.2, .int (nI ((fMake nT).2)), .int (nI ck), .long cn])), (m1, .inl (cB, md_L gm, .inl (nf kk))), (m2, .inl (cL, md_L gm, .inr (.inl ky))), (m3, .inl (cB, md_L gm, .inl (nf kd))), (m4, .inl (cL, md_L gm, .inr (.inl nu))), (m5, .inl (cI, md_L gm, .inl (nf tb))), (m6, .inl (cI, md_L gm, .inl (nf nx))), (m7, .inl (cI, md_L gm, .inl (nf ot))), (m8, .inl (cI, 8191, .inl (nf ch))), (u.1, .inl (cI, md_R (mR gt (fMake nT).2), .inl (nf fi))), (u.2.1, .inl (cI, md_R (mR gt (fMake nT).2), .inl (nf la))), (u.2.2, .inl (cI, md_R (mR gt (fMake nT).2), .inl (nf sz)))]) := by
  obtain ⟨hMS, hMT, hgt, hRT⟩ := id hMI
  have hAI := hMS.1
  have hnT := hMS.2.1
  have hgm := hMS.2.2.1
  have hnL := hMS.2.2.2.1
  have hAg := hMS.2.2.2.2.1
  have hk8 := hMS.2.2.2.2.2.1
  have hd7 := hMS.2.2.2.2.2.2.1
  have hdz := hMS.2.2.2.2.2.2.2.1
  have hch := hMS.2.2.2.2.2.2.2.2.1
  have hot := hMS.2.2.2.2.2.2.2.2.2
  have hg1 := md_gen gm hgm
  have hg2 := md_gen gt hgt
  have hn4 := hAI.1
  refine StdI.mk (cc := b_M_make) (maxL := 1) (by decide) rfl (Nat.le_of_ble_eq_true rfl) ?_
  intro p e s m below meth c A Z ls hx hb hml hown hts hin hP hK hD hA hS hret hl
  have hown : s.vm.findClass R_M = some m.cls := hown
  have hw : ∀ x ∈ WALL, x.before _ s = true := fun x h => hts x (List.mem_cons_of_mem _ h)
  have hl : lv_has ls 1 [(0, .ref mo)] := hl
  refine lv_aload_n hx hb d_M_make_0 rfl (lv_at hl 0 rfl) ?_
  refine va_get (D := (dC, dI)) (ci := 3) (v := .int (nI nT)) (C := R_M) (T := T_M) (N := 15) hx hb hw in_M hown hK hP 0 rfl rfl 12 (by decide) (hw _ m_373) (fun _ h9 => h9) rfl d_M_make_1 ?_
  refine lv_sipush (v := nI 30000) hx hb d_M_make_4 (by decide) ?_
  refine lv_icmp_ne (tgt := 13) hx hb d_M_make_7 (by decide) (fun c7 => ?_) (fun c7 => ?_)
  · have c7 : ¬ nT = 30000 := fun h => c7 (by exact (nI_eq (by omega) (by omega)).mpr h)
    have eF : (fMake nT) = (nI (nT + 1), nT + 1) := if_neg c7
    refine lv_aload_n hx hb d_M_make_13 rfl (lv_at hl 0 rfl) ?_
    refine lv_dup hx hb d_M_make_14 rfl ?_
    refine va_get (D := (dC, dI)) (ci := 3) (v := .int (nI nT)) (C := R_M) (T := T_M) (N := 15) hx hb hw in_M hown hK hP 0 rfl rfl 12 (by decide) (hw _ m_373) (fun _ h9 => h9) rfl d_M_make_15 ?_
    refine lv_iconst (v := nI 1) hx hb d_M_make_18 (by decide) ?_
    refine lv_iadd hx hb d_M_make_19 ?_
    refine fz_eqi (y := nI (nT + 1)) (nI_add nT 1) ?_
    refine va_put (D := (dC, dI)) (ci := 3) (v := .int (nI (nT + 1))) (ty := .int) (C := R_M) (T := T_M) (N := 15) hx hb hw in_M ty_M tyok_M nn_M hown hK hP hD hS 0 rfl rfl 12 (by decide) (hw _ m_373) (fun _ h9 => h9) rfl (by decide +kernel) rfl rfl (Nat.le_of_ble_eq_true rfl) d_M_make_20 (fun H locs hP hD hS => ?_)
    have hP : va_P (dC, dI) classes [(mo, .inr (3, [.ref m1, .ref m2, .ref m3, .ref m4, .ref m5, .ref m6, .ref m7, .int (nI (aN a)), .ref m8, .ref m9, .ref m10, .ref m11, .int (nI (nT + 1)), .int (nI ck), .long cn])), (m1, .inl (cB, md_L gm, .inl (nf kk))), (m2, .inl (cL, md_L gm, .inr (.inl ky))), (m3, .inl (cB, md_L gm, .inl (nf kd))), (m4, .inl (cL, md_L gm, .inr (.inl nu))), (m5, .inl (cI, md_L gm, .inl (nf tb))), (m6, .inl (cI, md_L gm, .inl (nf nx))), (m7, .inl (cI, md_L gm, .inl (nf ot))), (m8, .inl (cI, 8191, .inl (nf ch))), (m9, .inl (cI, md_R gt, .inl (nf fi))), (m10, .inl (cI, md_R gt, .inl (nf la))), (m11, .inl (cI, md_R gt, .inl (nf sz)))] H := hP
    have hD : va_D A [(mo, .inr (3, [.ref m1, .ref m2, .ref m3, .ref m4, .ref m5, .ref m6, .ref m7, .int (nI (aN a)), .ref m8, .ref m9, .ref m10, .ref m11, .int (nI (nT + 1)), .int (nI ck), .long cn])), (m1, .inl (cB, md_L gm, .inl (nf kk))), (m2, .inl (cL, md_L gm, .inr (.inl ky))), (m3, .inl (cB, md_L gm, .inl (nf kd))), (m4, .inl (cL, md_L gm, .inr (.inl nu))), (m5, .inl (cI, md_L gm, .inl (nf tb))), (m6, .inl (cI, md_L gm, .inl (nf nx))), (m7, .inl (cI, md_L gm, .inl (nf ot))), (m8, .inl (cI, 8191, .inl (nf ch))), (m9, .inl (cI, md_R gt, .inl (nf fi))), (m10, .inl (cI, md_R gt, .inl (nf la))), (m11, .inl (cI, md_R gt, .inl (nf sz)))] := hD
    refine lv_aload_n hx hb d_M_make_23 rfl (lv_at hl 0 rfl) ?_
    refine va_get (D := (dC, dI)) (ci := 3) (v := .int (nI (nT + 1))) (C := R_M) (T := T_M) (N := 15) hx hb hw in_M hown hK hP 0 rfl rfl 12 (by decide) (hw _ m_373) (fun _ h9 => h9) rfl d_M_make_24 ?_
    refine lv_aload_n hx hb d_M_make_27 rfl (lv_at hl 0 rfl) ?_
    refine va_get (D := (dC, dI)) (ci := 3) (v := .ref m9) (C := R_M) (T := T_M) (N := 15) hx hb hw in_M hown hK hP 0 rfl rfl 9 (by decide) (hw _ m_370) (fun _ h9 => h9) rfl d_M_make_28 ?_
    refine fz_alen hx hb hK hP 9 0 rfl rfl d_M_make_31 ?_
    refine lv_icmp_ne (tgt := 68) hx hb d_M_make_32 (by decide) (fun c32 => ?_) (fun c32 => ?_)
    · have c32 : ¬ nT + 1 = md_R gt := fun h => c32 (by exact (nI_eq (by omega) (by omega)).mpr h)
      refine lv_aload_n hx hb d_M_make_68 rfl (lv_at hl 0 rfl) ?_
      refine va_get (D := (dC, dI)) (ci := 3) (v := .int (nI (nT + 1))) (C := R_M) (T := T_M) (N := 15) hx hb hw in_M hown hK hP 0 rfl rfl 12 (by decide) (hw _ m_373) (fun _ h9 => h9) rfl d_M_make_69 ?_
      have eg : mR gt (fMake nT).2 = gt := by rw [eF]; exact mR_same (by show nT + 1 < md_R gt; omega)
      have hM1 := hMI.make (by omega)
      have hP : va_P (dC, dI) classes [(mo, .inr (3, [.ref m1, .ref m2, .ref m3, .ref m4, .ref m5, .ref m6, .ref m7, .int (nI (aN a)), .ref m8, .ref m9, .ref m10, .ref m11, .int (nI ((fMake nT).2)), .int (nI ck), .long cn])), (m1, .inl (cB, md_L gm, .inl (nf kk))), (m2, .inl (cL, md_L gm, .inr (.inl ky))), (m3, .inl (cB, md_L gm, .inl (nf kd))), (m4, .inl (cL, md_L gm, .inr (.inl nu))), (m5, .inl (cI, md_L gm, .inl (nf tb))), (m6, .inl (cI, md_L gm, .inl (nf nx))), (m7, .inl (cI, md_L gm, .inl (nf ot))), (m8, .inl (cI, 8191, .inl (nf ch))), (m9, .inl (cI, md_R (mR gt (fMake nT).2), .inl (nf fi))), (m10, .inl (cI, md_R (mR gt (fMake nT).2), .inl (nf la))), (m11, .inl (cI, md_R (mR gt (fMake nT).2), .inl (nf sz)))] H := by rw [eg, eF]; exact hP
      have hD : va_D A [(mo, .inr (3, [.ref m1, .ref m2, .ref m3, .ref m4, .ref m5, .ref m6, .ref m7, .int (nI (aN a)), .ref m8, .ref m9, .ref m10, .ref m11, .int (nI ((fMake nT).2)), .int (nI ck), .long cn])), (m1, .inl (cB, md_L gm, .inl (nf kk))), (m2, .inl (cL, md_L gm, .inr (.inl ky))), (m3, .inl (cB, md_L gm, .inl (nf kd))), (m4, .inl (cL, md_L gm, .inr (.inl nu))), (m5, .inl (cI, md_L gm, .inl (nf tb))), (m6, .inl (cI, md_L gm, .inl (nf nx))), (m7, .inl (cI, md_L gm, .inl (nf ot))), (m8, .inl (cI, 8191, .inl (nf ch))), (m9, .inl (cI, md_R (mR gt (fMake nT).2), .inl (nf fi))), (m10, .inl (cI, md_R (mR gt (fMake nT).2), .inl (nf la))), (m11, .inl (cI, md_R (mR gt (fMake nT).2), .inl (nf sz)))] := by rw [eg, eF]; exact hD
      refine W.widen (k := 3 * (mR gt (fMake nT).2 - gt)) (n := Mt (mR gt (fMake nT).2) - Mt gt) (by omega) (by omega) ?_
      have hpost : (nI (nT + 1)) = (fMake nT).1 ∧ MI (fMake nT).2 a gm (mR gt (fMake nT).2) kk ky kd nu tb nx ot ch fi la sz := ⟨by rw [eF], by rw [eF]; exact hM1⟩
      exact hret (nI (nT + 1)) (m9, m10, m11) _ _ 72 ls hpost hP hD hS d_M_make_72
    · have c32 : nT + 1 = md_R gt := by exact (nI_eq (by omega) (by omega)).mp c32
      have eg : mR gt (fMake nT).2 = gt + 1 := by rw [eF]; exact if_neg (by omega)
      have eT : Mt (gt + 1) = Mt gt + 3 * (2 * md_R gt) := rfl
      refine lv_aload_n hx hb d_M_make_35 rfl (lv_at hl 0 rfl) ?_
      refine lv_aload_n hx hb d_M_make_36 rfl (lv_at hl 0 rfl) ?_
      refine va_get (D := (dC, dI)) (ci := 3) (v := .ref m9) (C := R_M) (T := T_M) (N := 15) hx hb hw in_M hown hK hP 0 rfl rfl 9 (by decide) (hw _ m_370) (fun _ h9 => h9) rfl d_M_make_37 ?_
      refine StdR.callS (wr := [(mo, .inr (3, [.ref m1, .ref m2, .ref m3, .ref m4, .ref m5, .ref m6, .ref m7, .int (nI (aN a)), .ref m8, .ref m9, .ref m10, .ref m11, .int (nI (nT + 1)), .int (nI ck), .long cn])), (m1, .inl (cB, md_L gm, .inl (nf kk))), (m2, .inl (cL, md_L gm, .inr (.inl ky))), (m3, .inl (cB, md_L gm, .inl (nf kd))), (m4, .inl (cL, md_L gm, .inr (.inl nu))), (m5, .inl (cI, md_L gm, .inl (nf tb))), (m6, .inl (cI, md_L gm, .inl (nf nx))), (m7, .inl (cI, md_L gm, .inl (nf ot))), (m8, .inl (cI, 8191, .inl (nf ch))), (m10, .inl (cI, md_R gt, .inl (nf la))), (m11, .inl (cI, md_R gt, .inl (nf sz)))]) (c_twice l dC dI cI cL cB m9 (md_R gt) fi (by omega)) ⟨hx, hb, hml, hown, hw⟩ (fz_cwS 1 hw m_413 m_411 m_412 m_4 rfl rfl (by decide +kernel) ⟨Nat.le_of_ble_eq_true rfl, Nat.le_of_ble_eq_true rfl⟩) hK hP hD hS hA [9] [0, 1, 2, 3, 4, 5, 6, 7, 8, 10, 11] rfl rfl (by decide) (by decide) (by decide) rfl hl.1 rfl (Nat.le_of_ble_eq_true rfl) d_M_make_40 ⟨(by dsimp only; rw [eg]; omega), (by dsimp only; rw [eg, eT]; omega)⟩ (fun r40 u40 H locs h40 hP hD hS => ?_)
      try dsimp only at h40
      have hP : va_P (dC, dI) classes [(mo, .inr (3, [.ref m1, .ref m2, .ref m3, .ref m4, .ref m5, .ref m6, .ref m7, .int (nI (aN a)), .ref m8, .ref m9, .ref m10, .ref m11, .int (nI (nT + 1)), .int (nI ck), .long cn])), (m1, .inl (cB, md_L gm, .inl (nf kk))), (m2, .inl (cL, md_L gm, .inr (.inl ky))), (m3, .inl (cB, md_L gm, .inl (nf kd))), (m4, .inl (cL, md_L gm, .inr (.inl nu))), (m5, .inl (cI, md_L gm, .inl (nf tb))), (m6, .inl (cI, md_L gm, .inl (nf nx))), (m7, .inl (cI, md_L gm, .inl (nf ot))), (m8, .inl (cI, 8191, .inl (nf ch))), (m10, .inl (cI, md_R gt, .inl (nf la))), (m11, .inl (cI, md_R gt, .inl (nf sz))), (m9, .inl (cI, (md_R gt), .inl (nf fi))), (r40, .inl (cI, 2 * (md_R gt), .inl (nf (cpz fi (fun _ => 0) (md_R gt)))))] H := hP
      have hD : va_D A [(mo, .inr (3, [.ref m1, .ref m2, .ref m3, .ref m4, .ref m5, .ref m6, .ref m7, .int (nI (aN a)), .ref m8, .ref m9, .ref m10, .ref m11, .int (nI (nT + 1)), .int (nI ck), .long cn])), (m1, .inl (cB, md_L gm, .inl (nf kk))), (m2, .inl (cL, md_L gm, .inr (.inl ky))), (m3, .inl (cB, md_L gm, .inl (nf kd))), (m4, .inl (cL, md_L gm, .inr (.inl nu))), (m5, .inl (cI, md_L gm, .inl (nf tb))), (m6, .inl (cI, md_L gm, .inl (nf nx))), (m7, .inl (cI, md_L gm, .inl (nf ot))), (m8, .inl (cI, 8191, .inl (nf ch))), (m10, .inl (cI, md_R gt, .inl (nf la))), (m11, .inl (cI, md_R gt, .inl (nf sz))), (m9, .inl (cI, (md_R gt), .inl (nf fi))), (r40, .inl (cI, 2 * (md_R gt), .inl (nf (cpz fi (fun _ => 0) (md_R gt)))))] := hD
      refine W.widen (k := 1) (n := 2 * (md_R gt)) (by omega) (by omega) ?_
      refine va_put (D := (dC, dI)) (ci := 3) (v := .ref r40) (ty := .array .int) (C := R_M) (T := T_M) (N := 15) hx hb hw in_M ty_M tyok_M nn_M hown hK hP hD hS 0 rfl rfl 9 (by decide) (hw _ m_370) (fun _ h9 => h9) rfl (by decide +kernel) rfl rfl (Nat.le_of_ble_eq_true rfl) d_M_make_43 (fun H locs hP hD hS => ?_)
      have hP : va_P (dC, dI) classes [(mo, .inr (3, [.ref m1, .ref m2, .ref m3, .ref m4, .ref m5, .ref m6, .ref m7, .int (nI (aN a)), .ref m8, .ref r40, .ref m10, .ref m11, .int (nI (nT + 1)), .int (nI ck), .long cn])), (m1, .inl (cB, md_L gm, .inl (nf kk))), (m2, .inl (cL, md_L gm, .inr (.inl ky))), (m3, .inl (cB, md_L gm, .inl (nf kd))), (m4, .inl (cL, md_L gm, .inr (.inl nu))), (m5, .inl (cI, md_L gm, .inl (nf tb))), (m6, .inl (cI, md_L gm, .inl (nf nx))), (m7, .inl (cI, md_L gm, .inl (nf ot))), (m8, .inl (cI, 8191, .inl (nf ch))), (m10, .inl (cI, md_R gt, .inl (nf la))), (m11, .inl (cI, md_R gt, .inl (nf sz))), (m9, .inl (cI, (md_R gt), .inl (nf fi))), (r40, .inl (cI, 2 * (md_R gt), .inl (nf (cpz fi (fun _ => 0) (md_R gt)))))] H := hP
      have hD : va_D A [(mo, .inr (3, [.ref m1, .ref m2, .ref m3, .ref m4, .ref m5, .ref m6, .ref m7, .int (nI (aN a)), .ref m8, .ref r40, .ref m10, .ref m11, .int (nI (nT + 1)), .int (nI ck), .long cn])), (m1, .inl (cB, md_L gm, .inl (nf kk))), (m2, .inl (cL, md_L gm, .inr (.inl ky))), (m3, .inl (cB, md_L gm, .inl (nf kd))), (m4, .inl (cL, md_L gm, .inr (.inl nu))), (m5, .inl (cI, md_L gm, .inl (nf tb))), (m6, .inl (cI, md_L gm, .inl (nf nx))), (m7, .inl (cI, md_L gm, .inl (nf ot))), (m8, .inl (cI, 8191, .inl (nf ch))), (m10, .inl (cI, md_R gt, .inl (nf la))), (m11, .inl (cI, md_R gt, .inl (nf sz))), (m9, .inl (cI, (md_R gt), .inl (nf fi))), (r40, .inl (cI, 2 * (md_R gt), .inl (nf (cpz fi (fun _ => 0) (md_R gt)))))] := hD
      refine lv_aload_n hx hb d_M_make_46 rfl (lv_at hl 0 rfl) ?_
      refine lv_aload_n hx hb d_M_make_47 rfl (lv_at hl 0 rfl) ?_
      refine va_get (D := (dC, dI)) (ci := 3) (v := .ref m10) (C := R_M) (T := T_M) (N := 15) hx hb hw in_M hown hK hP 0 rfl rfl 10 (by decide) (hw _ m_371) (fun _ h9 => h9) rfl d_M_make_48 ?_
      refine StdR.callS (wr := [(mo, .inr (3, [.ref m1, .ref m2, .ref m3, .ref m4, .ref m5, .ref m6, .ref m7, .int (nI (aN a)), .ref m8, .ref r40, .ref m10, .ref m11, .int (nI (nT + 1)), .int (nI ck), .long cn])), (m1, .inl (cB, md_L gm, .inl (nf kk))), (m2, .inl (cL, md_L gm, .inr (.inl ky))), (m3, .inl (cB, md_L gm, .inl (nf kd))), (m4, .inl (cL, md_L gm, .inr (.inl nu))), (m5, .inl (cI, md_L gm, .inl (nf tb))), (m6, .inl (cI, md_L gm, .inl (nf nx))), (m7, .inl (cI, md_L gm, .inl (nf ot))), (m8, .inl (cI, 8191, .inl (nf ch))), (m11, .inl (cI, md_R gt, .inl (nf sz))), (m9, .inl (cI, (md_R gt), .inl (nf fi))), (r40, .inl (cI, 2 * (md_R gt), .inl (nf (cpz fi (fun _ => 0) (md_R gt)))))]) (c_twice l dC dI cI cL cB m10 (md_R gt) la (by omega)) ⟨hx, hb, hml, hown, hw⟩ (fz_cwS 1 hw m_413 m_411 m_412 m_4 rfl rfl (by decide +kernel) ⟨Nat.le_of_ble_eq_true rfl, Nat.le_of_ble_eq_true rfl⟩) hK hP hD hS hA [9] [0, 1, 2, 3, 4, 5, 6, 7, 8, 10, 11, 12] rfl rfl (by decide) (by decide) (by decide) rfl hl.1 rfl (Nat.le_of_ble_eq_true rfl) d_M_make_51 ⟨(by dsimp only; rw [eg]; omega), (by dsimp only; rw [eg, eT]; omega)⟩ (fun r51 u51 H locs h51 hP hD hS => ?_)
      try dsimp only at h51
      have hP : va_P (dC, dI) classes [(mo, .inr (3, [.ref m1, .ref m2, .ref m3, .ref m4, .ref m5, .ref m6, .ref m7, .int (nI (aN a)), .ref m8, .ref r40, .ref m10, .ref m11, .int (nI (nT + 1)), .int (nI ck), .long cn])), (m1, .inl (cB, md_L gm, .inl (nf kk))), (m2, .inl (cL, md_L gm, .inr (.inl ky))), (m3, .inl (cB, md_L gm, .inl (nf kd))), (m4, .inl (cL, md_L gm, .inr (.inl nu))), (m5, .inl (cI, md_L gm, .inl (nf tb))), (m6, .inl (cI, md_L gm, .inl (nf nx))), (m7, .inl (cI, md_L gm, .inl (nf ot))), (m8, .inl (cI, 8191, .inl (nf ch))), (m11, .inl (cI, md_R gt, .inl (nf sz))), (m9, .inl (cI, (md_R gt), .inl (nf fi))), (r40, .inl (cI, 2 * (md_R gt), .inl (nf (cpz fi (fun _ => 0) (md_R gt))))), (m10, .inl (cI, (md_R gt), .inl (nf la))), (r51, .inl (cI, 2 * (md_R gt), .inl (nf (cpz la (fun _ => 0) (md_R gt)))))] H := hP
      have hD : va_D A [(mo, .inr (3, [.ref m1, .ref m2, .ref m3, .ref m4, .ref m5, .ref m6, .ref m7, .int (nI (aN a)), .ref m8, .ref r40, .ref m10, .ref m11, .int (nI (nT + 1)), .int (nI ck), .long cn])), (m1, .inl (cB, md_L gm, .inl (nf kk))), (m2, .inl (cL, md_L gm, .inr (.inl ky))), (m3, .inl (cB, md_L gm, .inl (nf kd))), (m4, .inl (cL, md_L gm, .inr (.inl nu))), (m5, .inl (cI, md_L gm, .inl (nf tb))), (m6, .inl (cI, md_L gm, .inl (nf nx))), (m7, .inl (cI, md_L gm, .inl (nf ot))), (m8, .inl (cI, 8191, .inl (nf ch))), (m11, .inl (cI, md_R gt, .inl (nf sz))), (m9, .inl (cI, (md_R gt), .inl (nf fi))), (r40, .inl (cI, 2 * (md_R gt), .inl (nf (cpz fi (fun _ => 0) (md_R gt))))), (m10, .inl (cI, (md_R gt), .inl (nf la))), (r51, .inl (cI, 2 * (md_R gt), .inl (nf (cpz la (fun _ => 0) (md_R gt)))))] := hD
      refine W.widen (k := 2) (n := (2 * (md_R gt)) + (2 * (md_R gt))) (by omega) (by omega) ?_
      refine va_put (D := (dC, dI)) (ci := 3) (v := .ref r51) (ty := .array .int) (C := R_M) (T := T_M) (N := 15) hx hb hw in_M ty_M tyok_M nn_M hown hK hP hD hS 0 rfl rfl 10 (by decide) (hw _ m_371) (fun _ h9 => h9) rfl (by decide +kernel) rfl rfl (Nat.le_of_ble_eq_true rfl) d_M_make_54 (fun H locs hP hD hS => ?_)
      have hP : va_P (dC, dI) classes [(mo, .inr (3, [.ref m1, .ref m2, .ref m3, .ref m4, .ref m5, .ref m6, .ref m7, .int (nI (aN a)), .ref m8, .ref r40, .ref r51, .ref m11, .int (nI (nT + 1)), .int (nI ck), .long cn])), (m1, .inl (cB, md_L gm, .inl (nf kk))), (m2, .inl (cL, md_L gm, .inr (.inl ky))), (m3, .inl (cB, md_L gm, .inl (nf kd))), (m4, .inl (cL, md_L gm, .inr (.inl nu))), (m5, .inl (cI, md_L gm, .inl (nf tb))), (m6, .inl (cI, md_L gm, .inl (nf nx))), (m7, .inl (cI, md_L gm, .inl (nf ot))), (m8, .inl (cI, 8191, .inl (nf ch))), (m11, .inl (cI, md_R gt, .inl (nf sz))), (m9, .inl (cI, (md_R gt), .inl (nf fi))), (r40, .inl (cI, 2 * (md_R gt), .inl (nf (cpz fi (fun _ => 0) (md_R gt))))), (m10, .inl (cI, (md_R gt), .inl (nf la))), (r51, .inl (cI, 2 * (md_R gt), .inl (nf (cpz la (fun _ => 0) (md_R gt)))))] H := hP
      have hD : va_D A [(mo, .inr (3, [.ref m1, .ref m2, .ref m3, .ref m4, .ref m5, .ref m6, .ref m7, .int (nI (aN a)), .ref m8, .ref r40, .ref r51, .ref m11, .int (nI (nT + 1)), .int (nI ck), .long cn])), (m1, .inl (cB, md_L gm, .inl (nf kk))), (m2, .inl (cL, md_L gm, .inr (.inl ky))), (m3, .inl (cB, md_L gm, .inl (nf kd))), (m4, .inl (cL, md_L gm, .inr (.inl nu))), (m5, .inl (cI, md_L gm, .inl (nf tb))), (m6, .inl (cI, md_L gm, .inl (nf nx))), (m7, .inl (cI, md_L gm, .inl (nf ot))), (m8, .inl (cI, 8191, .inl (nf ch))), (m11, .inl (cI, md_R gt, .inl (nf sz))), (m9, .inl (cI, (md_R gt), .inl (nf fi))), (r40, .inl (cI, 2 * (md_R gt), .inl (nf (cpz fi (fun _ => 0) (md_R gt))))), (m10, .inl (cI, (md_R gt), .inl (nf la))), (r51, .inl (cI, 2 * (md_R gt), .inl (nf (cpz la (fun _ => 0) (md_R gt)))))] := hD
      refine lv_aload_n hx hb d_M_make_57 rfl (lv_at hl 0 rfl) ?_
      refine lv_aload_n hx hb d_M_make_58 rfl (lv_at hl 0 rfl) ?_
      refine va_get (D := (dC, dI)) (ci := 3) (v := .ref m11) (C := R_M) (T := T_M) (N := 15) hx hb hw in_M hown hK hP 0 rfl rfl 11 (by decide) (hw _ m_372) (fun _ h9 => h9) rfl d_M_make_59 ?_
      refine StdR.callS (wr := [(mo, .inr (3, [.ref m1, .ref m2, .ref m3, .ref m4, .ref m5, .ref m6, .ref m7, .int (nI (aN a)), .ref m8, .ref r40, .ref r51, .ref m11, .int (nI (nT + 1)), .int (nI ck), .long cn])), (m1, .inl (cB, md_L gm, .inl (nf kk))), (m2, .inl (cL, md_L gm, .inr (.inl ky))), (m3, .inl (cB, md_L gm, .inl (nf kd))), (m4, .inl (cL, md_L gm, .inr (.inl nu))), (m5, .inl (cI, md_L gm, .inl (nf tb))), (m6, .inl (cI, md_L gm, .inl (nf nx))), (m7, .inl (cI, md_L gm, .inl (nf ot))), (m8, .inl (cI, 8191, .inl (nf ch))), (m9, .inl (cI, (md_R gt), .inl (nf fi))), (r40, .inl (cI, 2 * (md_R gt), .inl (nf (cpz fi (fun _ => 0) (md_R gt))))), (m10, .inl (cI, (md_R gt), .inl (nf la))), (r51, .inl (cI, 2 * (md_R gt), .inl (nf (cpz la (fun _ => 0) (md_R gt)))))]) (c_twice l dC dI cI cL cB m11 (md_R gt) sz (by omega)) ⟨hx, hb, hml, hown, hw⟩ (fz_cwS 1 hw m_413 m_411 m_412 m_4 rfl rfl (by decide +kernel) ⟨Nat.le_of_ble_eq_true rfl, Nat.le_of_ble_eq_true rfl⟩) hK hP hD hS hA [9] [0, 1, 2, 3, 4, 5, 6, 7, 8, 10, 11, 12, 13] rfl rfl (by decide) (by decide) (by decide) rfl hl.1 rfl (Nat.le_of_ble_eq_true rfl) d_M_make_62 ⟨(by dsimp only; rw [eg]; omega), (by dsimp only; rw [eg, eT]; omega)⟩ (fun r62 u62 H locs h62 hP hD hS => ?_)
      try dsimp only at h62
      have hP : va_P (dC, dI) classes [(mo, .inr (3, [.ref m1, .ref m2, .ref m3, .ref m4, .ref m5, .ref m6, .ref m7, .int (nI (aN a)), .ref m8, .ref r40, .ref r51, .ref m11, .int (nI (nT + 1)), .int (nI ck), .long cn])), (m1, .inl (cB, md_L gm, .inl (nf kk))), (m2, .inl (cL, md_L gm, .inr (.inl ky))), (m3, .inl (cB, md_L gm, .inl (nf kd))), (m4, .inl (cL, md_L gm, .inr (.inl nu))), (m5, .inl (cI, md_L gm, .inl (nf tb))), (m6, .inl (cI, md_L gm, .inl (nf nx))), (m7, .inl (cI, md_L gm, .inl (nf ot))), (m8, .inl (cI, 8191, .inl (nf ch))), (m9, .inl (cI, (md_R gt), .inl (nf fi))), (r40, .inl (cI, 2 * (md_R gt), .inl (nf (cpz fi (fun _ => 0) (md_R gt))))), (m10, .inl (cI, (md_R gt), .inl (nf la))), (r51, .inl (cI, 2 * (md_R gt), .inl (nf (cpz la (fun _ => 0) (md_R gt))))), (m11, .inl (cI, (md_R gt), .inl (nf sz))), (r62, .inl (cI, 2 * (md_R gt), .inl (nf (cpz sz (fun _ => 0) (md_R gt)))))] H := hP
      have hD : va_D A [(mo, .inr (3, [.ref m1, .ref m2, .ref m3, .ref m4, .ref m5, .ref m6, .ref m7, .int (nI (aN a)), .ref m8, .ref r40, .ref r51, .ref m11, .int (nI (nT + 1)), .int (nI ck), .long cn])), (m1, .inl (cB, md_L gm, .inl (nf kk))), (m2, .inl (cL, md_L gm, .inr (.inl ky))), (m3, .inl (cB, md_L gm, .inl (nf kd))), (m4, .inl (cL, md_L gm, .inr (.inl nu))), (m5, .inl (cI, md_L gm, .inl (nf tb))), (m6, .inl (cI, md_L gm, .inl (nf nx))), (m7, .inl (cI, md_L gm, .inl (nf ot))), (m8, .inl (cI, 8191, .inl (nf ch))), (m9, .inl (cI, (md_R gt), .inl (nf fi))), (r40, .inl (cI, 2 * (md_R gt), .inl (nf (cpz fi (fun _ => 0) (md_R gt))))), (m10, .inl (cI, (md_R gt), .inl (nf la))), (r51, .inl (cI, 2 * (md_R gt), .inl (nf (cpz la (fun _ => 0) (md_R gt))))), (m11, .inl (cI, (md_R gt), .inl (nf sz))), (r62, .inl (cI, 2 * (md_R gt), .inl (nf (cpz sz (fun _ => 0) (md_R gt)))))] := hD
      refine W.widen (k := 3) (n := ((2 * (md_R gt)) + (2 * (md_R gt))) + (2 * (md_R gt))) (by omega) (by omega) ?_
      refine va_put (D := (dC, dI)) (ci := 3) (v := .ref r62) (ty := .array .int) (C := R_M) (T := T_M) (N := 15) hx hb hw in_M ty_M tyok_M nn_M hown hK hP hD hS 0 rfl rfl 11 (by decide) (hw _ m_372) (fun _ h9 => h9) rfl (by decide +kernel) rfl rfl (Nat.le_of_ble_eq_true rfl) d_M_make_65 (fun H locs hP hD hS => ?_)
      have hP : va_P (dC, dI) classes [(mo, .inr (3, [.ref m1, .ref m2, .ref m3, .ref m4, .ref m5, .ref m6, .ref m7, .int (nI (aN a)), .ref m8, .ref r40, .ref r51, .ref r62, .int (nI (nT + 1)), .int (nI ck), .long cn])), (m1, .inl (cB, md_L gm, .inl (nf kk))), (m2, .inl (cL, md_L gm, .inr (.inl ky))), (m3, .inl (cB, md_L gm, .inl (nf kd))), (m4, .inl (cL, md_L gm, .inr (.inl nu))), (m5, .inl (cI, md_L gm, .inl (nf tb))), (m6, .inl (cI, md_L gm, .inl (nf nx))), (m7, .inl (cI, md_L gm, .inl (nf ot))), (m8, .inl (cI, 8191, .inl (nf ch))), (m9, .inl (cI, (md_R gt), .inl (nf fi))), (r40, .inl (cI, 2 * (md_R gt), .inl (nf (cpz fi (fun _ => 0) (md_R gt))))), (m10, .inl (cI, (md_R gt), .inl (nf la))), (r51, .inl (cI, 2 * (md_R gt), .inl (nf (cpz la (fun _ => 0) (md_R gt))))), (m11, .inl (cI, (md_R gt), .inl (nf sz))), (r62, .inl (cI, 2 * (md_R gt), .inl (nf (cpz sz (fun _ => 0) (md_R gt)))))] H := hP
      have hD : va_D A [(mo, .inr (3, [.ref m1, .ref m2, .ref m3, .ref m4, .ref m5, .ref m6, .ref m7, .int (nI (aN a)), .ref m8, .ref r40, .ref r51, .ref r62, .int (nI (nT + 1)), .int (nI ck), .long cn])), (m1, .inl (cB, md_L gm, .inl (nf kk))), (m2, .inl (cL, md_L gm, .inr (.inl ky))), (m3, .inl (cB, md_L gm, .inl (nf kd))), (m4, .inl (cL, md_L gm, .inr (.inl nu))), (m5, .inl (cI, md_L gm, .inl (nf tb))), (m6, .inl (cI, md_L gm, .inl (nf nx))), (m7, .inl (cI, md_L gm, .inl (nf ot))), (m8, .inl (cI, 8191, .inl (nf ch))), (m9, .inl (cI, (md_R gt), .inl (nf fi))), (r40, .inl (cI, 2 * (md_R gt), .inl (nf (cpz fi (fun _ => 0) (md_R gt))))), (m10, .inl (cI, (md_R gt), .inl (nf la))), (r51, .inl (cI, 2 * (md_R gt), .inl (nf (cpz la (fun _ => 0) (md_R gt))))), (m11, .inl (cI, (md_R gt), .inl (nf sz))), (r62, .inl (cI, 2 * (md_R gt), .inl (nf (cpz sz (fun _ => 0) (md_R gt)))))] := hD
      refine lv_aload_n hx hb d_M_make_68 rfl (lv_at hl 0 rfl) ?_
      refine va_get (D := (dC, dI)) (ci := 3) (v := .int (nI (nT + 1))) (C := R_M) (T := T_M) (N := 15) hx hb hw in_M hown hK hP 0 rfl rfl 12 (by decide) (hw _ m_373) (fun _ h9 => h9) rfl d_M_make_69 ?_
      have hM1 := hMI.make (by omega)
      have efi : cpz fi (fun _ => 0) (md_R gt) = fi := cpz_same (fun t ht => (hMT.2.2 t (by omega)).1)
      rw [efi] at hP hD
      have ela : cpz la (fun _ => 0) (md_R gt) = la := cpz_same (fun t ht => (hMT.2.2 t (by omega)).2.1)
      rw [ela] at hP hD
      have esz : cpz sz (fun _ => 0) (md_R gt) = sz := cpz_same (fun t ht => (hMT.2.2 t (by omega)).2.2)
      rw [esz] at hP hD
      have hP : va_P (dC, dI) classes [(mo, .inr (3, [.ref m1, .ref m2, .ref m3, .ref m4, .ref m5, .ref m6, .ref m7, .int (nI (aN a)), .ref m8, .ref r40, .ref r51, .ref r62, .int (nI (nT + 1)), .int (nI ck), .long cn])), (m1, .inl (cB, md_L gm, .inl (nf kk))), (m2, .inl (cL, md_L gm, .inr (.inl ky))), (m3, .inl (cB, md_L gm, .inl (nf kd))), (m4, .inl (cL, md_L gm, .inr (.inl nu))), (m5, .inl (cI, md_L gm, .inl (nf tb))), (m6, .inl (cI, md_L gm, .inl (nf nx))), (m7, .inl (cI, md_L gm, .inl (nf ot))), (m8, .inl (cI, 8191, .inl (nf ch))), (m9, .inl (cI, (md_R gt), .inl (nf fi))), (r40, .inl (cI, 2 * (md_R gt), .inl (nf fi))), (m10, .inl (cI, (md_R gt), .inl (nf la))), (r51, .inl (cI, 2 * (md_R gt), .inl (nf la))), (m11, .inl (cI, (md_R gt), .inl (nf sz))), (r62, .inl (cI, 2 * (md_R gt), .inl (nf sz)))] H := hP
      have hD : va_D A [(mo, .inr (3, [.ref m1, .ref m2, .ref m3, .ref m4, .ref m5, .ref m6, .ref m7, .int (nI (aN a)), .ref m8, .ref r40, .ref r51, .ref r62, .int (nI (nT + 1)), .int (nI ck), .long cn])), (m1, .inl (cB, md_L gm, .inl (nf kk))), (m2, .inl (cL, md_L gm, .inr (.inl ky))), (m3, .inl (cB, md_L gm, .inl (nf kd))), (m4, .inl (cL, md_L gm, .inr (.inl nu))), (m5, .inl (cI, md_L gm, .inl (nf tb))), (m6, .inl (cI, md_L gm, .inl (nf nx))), (m7, .inl (cI, md_L gm, .inl (nf ot))), (m8, .inl (cI, 8191, .inl (nf ch))), (m9, .inl (cI, (md_R gt), .inl (nf fi))), (r40, .inl (cI, 2 * (md_R gt), .inl (nf fi))), (m10, .inl (cI, (md_R gt), .inl (nf la))), (r51, .inl (cI, 2 * (md_R gt), .inl (nf la))), (m11, .inl (cI, (md_R gt), .inl (nf sz))), (r62, .inl (cI, 2 * (md_R gt), .inl (nf sz)))] := hD
      have hP : va_P (dC, dI) classes [(mo, .inr (3, [.ref m1, .ref m2, .ref m3, .ref m4, .ref m5, .ref m6, .ref m7, .int (nI (aN a)), .ref m8, .ref r40, .ref r51, .ref r62, .int (nI ((fMake nT).2)), .int (nI ck), .long cn])), (m1, .inl (cB, md_L gm, .inl (nf kk))), (m2, .inl (cL, md_L gm, .inr (.inl ky))), (m3, .inl (cB, md_L gm, .inl (nf kd))), (m4, .inl (cL, md_L gm, .inr (.inl nu))), (m5, .inl (cI, md_L gm, .inl (nf tb))), (m6, .inl (cI, md_L gm, .inl (nf nx))), (m7, .inl (cI, md_L gm, .inl (nf ot))), (m8, .inl (cI, 8191, .inl (nf ch))), (m9, .inl (cI, (md_R gt), .inl (nf fi))), (r40, .inl (cI, md_R (mR gt (fMake nT).2), .inl (nf fi))), (m10, .inl (cI, (md_R gt), .inl (nf la))), (r51, .inl (cI, md_R (mR gt (fMake nT).2), .inl (nf la))), (m11, .inl (cI, (md_R gt), .inl (nf sz))), (r62, .inl (cI, md_R (mR gt (fMake nT).2), .inl (nf sz)))] H := by rw [eg, eF]; exact hP
      have hD : va_D A [(mo, .inr (3, [.ref m1, .ref m2, .ref m3, .ref m4, .ref m5, .ref m6, .ref m7, .int (nI (aN a)), .ref m8, .ref r40, .ref r51, .ref r62, .int (nI ((fMake nT).2)), .int (nI ck), .long cn])), (m1, .inl (cB, md_L gm, .inl (nf kk))), (m2, .inl (cL, md_L gm, .inr (.inl ky))), (m3, .inl (cB, md_L gm, .inl (nf kd))), (m4, .inl (cL, md_L gm, .inr (.inl nu))), (m5, .inl (cI, md_L gm, .inl (nf tb))), (m6, .inl (cI, md_L gm, .inl (nf nx))), (m7, .inl (cI, md_L gm, .inl (nf ot))), (m8, .inl (cI, 8191, .inl (nf ch))), (m9, .inl (cI, (md_R gt), .inl (nf fi))), (r40, .inl (cI, md_R (mR gt (fMake nT).2), .inl (nf fi))), (m10, .inl (cI, (md_R gt), .inl (nf la))), (r51, .inl (cI, md_R (mR gt (fMake nT).2), .inl (nf la))), (m11, .inl (cI, (md_R gt), .inl (nf sz))), (r62, .inl (cI, md_R (mR gt (fMake nT).2), .inl (nf sz)))] := by rw [eg, eF]; exact hD
      refine W.widen (k := 3 * (mR gt (fMake nT).2 - gt)) (n := Mt (mR gt (fMake nT).2) - Mt gt) (by rw [eg]; omega) (by rw [eg, eT]; omega) ?_
      have hpost : (nI (nT + 1)) = (fMake nT).1 ∧ MI (fMake nT).2 a gm (mR gt (fMake nT).2) kk ky kd nu tb nx ot ch fi la sz := ⟨by rw [eF], by rw [eF]; exact hM1⟩
      exact hret (nI (nT + 1)) (r40, r51, r62) _ _ 72 ls hpost (fz_subP hP [0, 1, 2, 3, 4, 5, 6, 7, 8, 10, 12, 14] rfl) (hD.sub [0, 1, 2, 3, 4, 5, 6, 7, 8, 10, 12, 14] (by decide) rfl) hS d_M_make_72
  · have c7 : nT = 30000 := by exact (nI_eq (by omega) (by omega)).mp c7
    refine lv_bipush (v := -3) hx hb d_M_make_10 (by decide) ?_
    have eF : (fMake nT) = (-3, nT) := if_pos c7
    have eg : mR gt (fMake nT).2 = gt := by rw [eF]; exact mR_same hRT
    have hP : va_P (dC, dI) classes [(mo, .inr (3, [.ref m1, .ref m2, .ref m3, .ref m4, .ref m5, .ref m6, .ref m7, .int (nI (aN a)), .ref m8, .ref m9, .ref m10, .ref m11, .int (nI ((fMake nT).2)), .int (nI ck), .long cn])), (m1, .inl (cB, md_L gm, .inl (nf kk))), (m2, .inl (cL, md_L gm, .inr (.inl ky))), (m3, .inl (cB, md_L gm, .inl (nf kd))), (m4, .inl (cL, md_L gm, .inr (.inl nu))), (m5, .inl (cI, md_L gm, .inl (nf tb))), (m6, .inl (cI, md_L gm, .inl (nf nx))), (m7, .inl (cI, md_L gm, .inl (nf ot))), (m8, .inl (cI, 8191, .inl (nf ch))), (m9, .inl (cI, md_R (mR gt (fMake nT).2), .inl (nf fi))), (m10, .inl (cI, md_R (mR gt (fMake nT).2), .inl (nf la))), (m11, .inl (cI, md_R (mR gt (fMake nT).2), .inl (nf sz)))] s.heap := by rw [eg, eF]; exact hP
    have hD : va_D A [(mo, .inr (3, [.ref m1, .ref m2, .ref m3, .ref m4, .ref m5, .ref m6, .ref m7, .int (nI (aN a)), .ref m8, .ref m9, .ref m10, .ref m11, .int (nI ((fMake nT).2)), .int (nI ck), .long cn])), (m1, .inl (cB, md_L gm, .inl (nf kk))), (m2, .inl (cL, md_L gm, .inr (.inl ky))), (m3, .inl (cB, md_L gm, .inl (nf kd))), (m4, .inl (cL, md_L gm, .inr (.inl nu))), (m5, .inl (cI, md_L gm, .inl (nf tb))), (m6, .inl (cI, md_L gm, .inl (nf nx))), (m7, .inl (cI, md_L gm, .inl (nf ot))), (m8, .inl (cI, 8191, .inl (nf ch))), (m9, .inl (cI, md_R (mR gt (fMake nT).2), .inl (nf fi))), (m10, .inl (cI, md_R (mR gt (fMake nT).2), .inl (nf la))), (m11, .inl (cI, md_R (mR gt (fMake nT).2), .inl (nf sz)))] := by rw [eg, eF]; exact hD
    refine W.widen (k := 3 * (mR gt (fMake nT).2 - gt)) (n := Mt (mR gt (fMake nT).2) - Mt gt) (by omega) (by omega) ?_
    have hpost : (-3) = (fMake nT).1 ∧ MI (fMake nT).2 a gm (mR gt (fMake nT).2) kk ky kd nu tb nx ot ch fi la sz := ⟨by rw [eF], by rw [eg, eF]; exact hMI⟩
    exact hret (-3) (m9, m10, m11) _ _ 12 ls hpost hP hD hS d_M_make_12
