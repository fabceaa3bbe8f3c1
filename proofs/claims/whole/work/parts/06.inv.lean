/-! numbers that come from outside -/
def okT (nT : Nat) (x : Int32) : Prop := ∃ j, 1 ≤ j ∧ j ≤ nT ∧ x = nI j
def okV (x : Int32) : Prop := ∃ j, j ≤ 7 ∧ x = nI j
theorem okT_of {nT : Nat} {x : Int32} (hn : nT < 2 ^ 31) (h1 : ¬ x < nI 1) (h2 : ¬ nI nT < x) : okT nT x := by
  rw [Int32.lt_iff_toInt_lt, nI_toInt (by omega)] at h1 h2
  refine ⟨x.toInt.toNat, by omega, by omega, ?_⟩
  apply Int32.toInt_inj.mp
  rw [nI_toInt (by omega)]; omega
theorem okT_lt {nT : Nat} {x : Int32} (hn : nT < 2 ^ 31) (h : x < nI 1) : ¬ okT nT x := by
  rintro ⟨j, h1, h2, rfl⟩
  have := (nI_ltI (by omega) (by omega)).mp h
  omega
theorem okT_gt {nT : Nat} {x : Int32} (hn : nT < 2 ^ 31) (h : nI nT < x) : ¬ okT nT x := by
  rintro ⟨j, h1, h2, rfl⟩
  have := (nI_ltI (by omega) (by omega)).mp h
  omega
theorem okV_of {x : Int32} (h1 : ¬ x < 0) (h2 : ¬ nI 7 < x) : okV x := by
  rw [Int32.lt_iff_toInt_lt, nI_toInt (by omega)] at h2
  rw [Int32.lt_iff_toInt_lt] at h1
  have e0 : (0 : Int32).toInt = 0 := rfl
  refine ⟨x.toInt.toNat, by omega, ?_⟩
  apply Int32.toInt_inj.mp
  rw [nI_toInt (by omega)]; omega
theorem okV_lt {x : Int32} (h : x < 0) : ¬ okV x := by
  rintro ⟨j, h1, rfl⟩
  exact nI_pos (by omega) h
theorem okV_gt {x : Int32} (h : nI 7 < x) : ¬ okV x := by
  rintro ⟨j, h1, rfl⟩
  have := (nI_ltI (by omega) (by omega)).mp h
  omega
/-! the lengths of the rows of tables -/
def hz_R (k : Nat) : Nat := match k with
  | 0 => 16
  | 1 => 32
  | 2 => 64
  | 3 => 128
  | 4 => 256
  | 5 => 512
  | 6 => 1024
  | 7 => 2048
  | 8 => 4096
  | 9 => 8192
  | 10 => 16384
  | _ => 30001
theorem hz_Rgen : ∀ g, g ≤ 11 → 16 ≤ hz_R g ∧ hz_R g ≤ 30001 := by decide +kernel
theorem hz_Rgrow : ∀ g, g < 11 → (if 30001 < hz_R g * 2 then 30001 else hz_R g * 2) = hz_R (g + 1) ∧ hz_R g < hz_R (g + 1) := by decide +kernel
def Rs : Nat → Nat
  | 0 => 0
  | g + 1 => Rs g + 5 * hz_R (g + 1)
/-! the class's state -/
def CS (nT : Nat) (a : AS) (g : Nat) (ow : Nat → Nat) (ky : Nat → Int64) (kd : Nat → Nat) (nu : Nat → Int64) (sn : Nat → Nat) : Prop :=
  AI nT a ∧ nT ≤ 30000 ∧ g ≤ 5 ∧ aN a < hz_L g ∧ (∀ i, i ≤ aN a → ow i = aO a i ∧ ky i = aK a i ∧ kd i = aD a i ∧ nu i = aU a i) ∧ (∀ i, kd i < 128) ∧ hz_T (hz_M g) (aN a) (fun i => hz_h (hz_M g) (ow i) (ky i)) sn
def CT (nT : Nat) (a : AS) (fo fi la kc vc bo : Nat → Nat) : Prop :=
  ci_F (aN a) (aO a) fo ∧ ∀ t, 1 ≤ t → t ≤ nT → ch_N (aO a) t (aN a) 0 (fi t) ∧ ch_L (aO a) t (aN a) (la t) ∧ kc t = cK a t ∧ vc t = cV a t ∧ isB a t (bo t)
section Inv
variable {nT g : Nat} {a : AS} {ow : Nat → Nat} {ky : Nat → Int64} {kd : Nat → Nat} {nu : Nat → Int64} {sn : Nat → Nat}
theorem CS.O (h : CS nT a g ow ky kd nu sn) : ∀ i, i ≤ aN a → ow i < 2 ^ 20 := fun i hi => by
  rw [(h.2.2.2.2.1 i hi).1]
  have := h.1.2.2.2.2.2.2.2 i
  omega
theorem CS.U (h : CS nT a g ow ky kd nu sn) : hz_U (aN a) ow ky := fun i j hi hi2 hj hj2 h1 h2 => by
  have q := h.2.2.2.2.1 i hi2
  have q2 := h.2.2.2.2.1 j hj2
  exact h.1.2.2.2.2.2.2.1 i j hi hi2 hj hj2 (by rw [← q.1, ← q2.1]; exact h1) (by rw [← q.2.1, ← q2.2.1]; exact h2)
theorem CS.F (h : CS nT a g ow ky kd nu sn) (o : Nat) (k : Int64) : fnd ow ky o k (aN a) = aF a o k := fnd_congr (fun j _ h2 => ⟨(h.2.2.2.2.1 j h2).1, (h.2.2.2.2.1 j h2).2.1⟩)
theorem CS.D (h : CS nT a g ow ky kd nu sn) (o : Nat) (k : Int64) : kd (aF a o k) = vD a o k := (h.2.2.2.2.1 _ (aF_le a o k)).2.2.1
theorem CS.V (h : CS nT a g ow ky kd nu sn) (o : Nat) (k : Int64) : nu (aF a o k) = vU a o k := (h.2.2.2.2.1 _ (aF_le a o k)).2.2.2
end Inv
theorem vD_le {nT : Nat} {a : AS} (h : AI nT a) (o : Nat) (k : Int64) : vD a o k ≤ 7 := h.2.2.1 _
def CI (nT : Nat) (a : AS) (g gt : Nat) (ow : Nat → Nat) (ky : Nat → Int64) (kd : Nat → Nat) (nu : Nat → Int64) (fo sn fi la kc vc bo : Nat → Nat) : Prop := CS nT a g ow ky kd nu sn ∧ CT nT a fo fi la kc vc bo ∧ gt ≤ 11 ∧ nT < hz_R gt
theorem vD_add0 {a : AS} {nT : Nat} (h : AI nT a) {o : Nat} {k : Int64} (hf : aF a o k = 0) (o' : Nat) (k' : Int64) : vD (addA a o k 0 0) o' k' = vD a o' k' := by
  unfold vD
  rw [aF_add]
  show va_up (aD a) (aN a + 1) 0 _ = _
  split
  · rename_i e
    rw [va_up_self, ← e.1, ← e.2, hf, h.2.2.2.1]
  · exact va_up_ne _ _ (by have := aF_le a o' k'; omega)
theorem isB.add0 {a : AS} {nT : Nat} (h : AI nT a) {o : Nat} {k : Int64} (hf : aF a o k = 0) {t b : Nat} (hb : isB a t b) : isB (addA a o k 0 0) t b := ⟨fun j h1 h2 => by
  show vD (addA a o k 0 0) _ _ ≠ 0
  rw [vD_add0 h hf]; exact hb.1 j h1 h2, by
  show vD (addA a o k 0 0) _ _ = 0
  rw [vD_add0 h hf]; exact hb.2⟩
theorem set_add (a : AS) (o : Nat) (k : Int64) (kd : Nat) (nu : Int64) : setA (addA a o k 0 0) (aN a + 1) kd nu = addA a o k kd nu := by
  show (aN a + 1, va_up (aO a) (aN a + 1) o, va_up (aK a) (aN a + 1) k, va_up (va_up (aD a) (aN a + 1) 0) (aN a + 1) kd, va_up (va_up (aU a) (aN a + 1) 0) (aN a + 1) nu) = _
  rw [bx_uu, bx_uu]
  rfl
/-- a key has come, with nil: the chains and the counts behind it -/
theorem CT.app {nT t kk : Nat} {a : AS} {k : Int64} {fo fi la kc vc bo fo1 fo2 fi2 la2 kc2 : Nat → Nat} (h : CT nT a fo fi la kc vc bo) (hA : AI nT a) (hf : aF a (t * 8 + kk) k = 0) (hk : kk < 8) (ht : 1 ≤ t) (ht2 : t ≤ nT)
    (e1 : ∀ i, i ≤ aN a → fo1 i = fo i) (e2 : fo1 (aN a + 1) = 0) (hfo : fo2 = if la t = 0 then fo1 else va_up fo1 (la t) (aN a + 1)) (hfi : fi2 = if la t = 0 then va_up fi t (aN a + 1) else fi) (hla : la2 = va_up la t (aN a + 1)) (hkc : kc2 = va_up kc t (kc t + 1)) :
    CT nT (addA a (t * 8 + kk) k 0 0) fo2 fi2 la2 kc2 vc bo := by
  obtain ⟨hF, hT⟩ := h
  have ho : (t * 8 + kk) / 8 = t := by omega
  have how : ∀ i, i ≤ aN a → aO (addA a (t * 8 + kk) k 0 0) i = aO a i := fun i hi => va_up_ne _ _ (by omega)
  have hon : aO (addA a (t * 8 + kk) k 0 0) (aN a + 1) = t * 8 + kk := va_up_self _ _ _
  obtain ⟨t1, t2, t3, t4, t5⟩ := hT t ht ht2
  have hl : la t ≤ aN a := by rcases t2 with ⟨q, _⟩ | ⟨_, q, _⟩ <;> omega
  refine ⟨?_, fun t' h1 h2 => ?_⟩
  · refine ci_F.app (t := t) (last := la t) hF t2 ho how hon (fun i hi ne => ?_) ?_ (fun nz => ?_)
    · rw [hfo]; split
      · exact e1 i hi
      · rw [va_up_ne _ _ ne]; exact e1 i hi
    · rw [hfo]; split
      · exact e2
      · rw [va_up_ne _ _ (by omega)]; exact e2
    · rw [hfo, if_neg nz]; exact va_up_self _ _ _
  · obtain ⟨u1, u2, u3, u4, u5⟩ := hT t' h1 h2
    refine ⟨?_, ?_, ?_, ?_, isB.add0 hA hf u5⟩
    · by_cases e : t' = t
      · subst e
        rw [hfi]
        split
        · rename_i z
          rw [va_up_self]
          refine ch_N.first ?_ ho how hon
          rcases u2 with ⟨_, q⟩ | ⟨q, _⟩
          · exact Or.inl ⟨rfl, fun x a1 a2 => q x (by omega) a2⟩
          · omega
        · rename_i z
          refine u1.app ho how hon (Or.inr (fun c => ?_))
          rcases u1 with ⟨_, q⟩ | ⟨q, _⟩
          · rcases u2 with ⟨q2, _⟩ | ⟨q2, q3, q4, _⟩
            · exact z q2
            · exact q _ (by omega) q3 q4
          · omega
      · have : fi2 t' = fi t' := by
          rw [hfi]; split
          · exact va_up_ne _ _ e
          · rfl
        rw [this]
        exact u1.app ho how hon (Or.inl e)
    · by_cases e : t' = t
      · subst e
        rw [hla, va_up_self]
        exact ch_L.last ho hon
      · rw [hla, va_up_ne _ _ e]
        exact u2.app ho how hon e
    · rw [cK_add, ho, hkc]
      by_cases e : t' = t
      · subst e; rw [va_up_self, if_pos rfl, u3]
      · rw [va_up_ne _ _ e, if_neg (fun c => e c.symm), u3, Nat.add_zero]
    · rw [cV_add, u4, if_neg (fun c => c.2 rfl), Nat.add_zero]
theorem give_set {nT : Nat} {a : AS} (h : AI nT a) {i : Nat} (h1 : 1 ≤ i) (h2 : i ≤ aN a) (kd : Nat) (nu : Int64) : giveA a (aO a i) (aK a i) kd nu = setA a i kd (if kd = 0 then 0 else nu) := by
  have e : aF a (aO a i) (aK a i) = i := fnd_uniq h.2.2.2.2.2.2.1 h1 h2 rfl rfl
  unfold giveA
  rw [e, if_neg (by omega)]
