/-! numbers that come from outside -/
def okT (nT : Nat) (x : Int32) : Prop := ∃ j, 1 ≤ j ∧ j ≤ nT ∧ x = nI j
def okV (x : Int32) : Prop := ∃ j, j ≤ 7 ∧ x = nI j
theorem okT_of {nT : Nat} {x : Int32} (hn : nT < 2 ^ 31) (h1 : ¬ x < nI 1) (h2 : ¬ nI nT < x) : okT nT x := by
  rw [Int32.lt_iff_toInt_lt, nI_toInt (by omega)] at h1 h2
  refine ⟨x.toInt.toNat, by omega, by omega, ?_⟩
  apply Int32.toInt_inj.mp
  rw [nI_toInt (by omega)]; omega
theorem okT_lt {nT : Nat} {x : Int32} (hn : nT < 2 ^ 31) (h : x < nI 1) : ¬ okT nT x := by
  rintro ⟨j, h1, h2, rfl⟩
  have := (nI_ltI (by omega) (by omega)).mp h
  omega
theorem okT_gt {nT : Nat} {x : Int32} (hn : nT < 2 ^ 31) (h : nI nT < x) : ¬ okT nT x := by
  rintro ⟨j, h1, h2, rfl⟩
  have := (nI_ltI (by omega) (by omega)).mp h
  omega
theorem okV_of {x : Int32} (h1 : ¬ x < 0) (h2 : ¬ nI 7 < x) : okV x := by
  rw [Int32.lt_iff_toInt_lt, nI_toInt (by omega)] at h2
  rw [Int32.lt_iff_toInt_lt] at h1
  have e0 : (0 : Int32).toInt = 0 := rfl
  refine ⟨x.toInt.toNat, by omega, ?_⟩
  apply Int32.toInt_inj.mp
  rw [nI_toInt (by omega)]; omega
theorem okV_lt {x : Int32} (h : x < 0) : ¬ okV x := by
  rintro ⟨j, h1, rfl⟩
  exact nI_pos (by omega) h
theorem okV_gt {x : Int32} (h : nI 7 < x) : ¬ okV x := by
  rintro ⟨j, h1, rfl⟩
  have := (nI_ltI (by omega) (by omega)).mp h
  omega
/-! the lengths of the rows of tables -/
def hz_R (k : Nat) : Nat := match k with
  | 0 => 16
  | 1 => 32
  | 2 => 64
  | 3 => 128
  | 4 => 256
  | 5 => 512
  | 6 => 1024
  | 7 => 2048
  | 8 => 4096
  | 9 => 8192
  | 10 => 16384
  | _ => 30001
theorem hz_Rgen : ∀ g, g ≤ 11 → 16 ≤ hz_R g ∧ hz_R g ≤ 30001 := by decide +kernel
theorem hz_Rgrow : ∀ g, g < 11 → (if 30001 < hz_R g * 2 then 30001 else hz_R g * 2) = hz_R (g + 1) ∧ hz_R g < hz_R (g + 1) := by decide +kernel
def Rs : Nat → Nat
  | 0 => 0
  | g + 1 => Rs g + 5 * hz_R (g + 1)
/-! the class's state -/
def CS (nT : Nat) (a : AS) (g : Nat) (ow : Nat → Nat) (ky : Nat → Int64) (kd : Nat → Nat) (nu : Nat → Int64) (sn : Nat → Nat) : Prop :=
  AI nT a ∧ nT ≤ 30000 ∧ g ≤ 5 ∧ aN a < hz_L g ∧ (∀ i, i ≤ aN a → ow i = aO a i ∧ ky i = aK a i ∧ kd i = aD a i ∧ nu i = aU a i) ∧ (∀ i, kd i < 128) ∧ hz_T (hz_M g) (aN a) (fun i => hz_h (hz_M g) (ow i) (ky i)) sn
def CT (nT : Nat) (a : AS) (fo fi la kc vc bo : Nat → Nat) : Prop :=
  ci_F (aN a) (aO a) fo ∧ ∀ t, 1 ≤ t → t ≤ nT → ch_N (aO a) t (aN a) 0 (fi t) ∧ ch_L (aO a) t (aN a) (la t) ∧ kc t = cK a t ∧ vc t = cV a t ∧ isB a t (bo t)
section Inv
variable {nT g : Nat} {a : AS} {ow : Nat → Nat} {ky : Nat → Int64} {kd : Nat → Nat} {nu : Nat → Int64} {sn : Nat → Nat}
theorem CS.O (h : CS nT a g ow ky kd nu sn) : ∀ i, i ≤ aN a → ow i < 2 ^ 20 := fun i hi => by
  rw [(h.2.2.2.2.1 i hi).1]
  have := h.1.2.2.2.2.2.2.2 i
  omega
theorem CS.U (h : CS nT a g ow ky kd nu sn) : hz_U (aN a) ow ky := fun i j hi hi2 hj hj2 h1 h2 => by
  have q := h.2.2.2.2.1 i hi2
  have q2 := h.2.2.2.2.1 j hj2
  exact h.1.2.2.2.2.2.2.1 i j hi hi2 hj hj2 (by rw [← q.1, ← q2.1]; exact h1) (by rw [← q.2.1, ← q2.2.1]; exact h2)
theorem CS.F (h : CS nT a g ow ky kd nu sn) (o : Nat) (k : Int64) : fnd ow ky o k (aN a) = aF a o k := fnd_congr (fun j _ h2 => ⟨(h.2.2.2.2.1 j h2).1, (h.2.2.2.2.1 j h2).2.1⟩)
theorem CS.D (h : CS nT a g ow ky kd nu sn) (o : Nat) (k : Int64) : kd (aF a o k) = vD a o k := (h.2.2.2.2.1 _ (aF_le a o k)).2.2.1
theorem CS.V (h : CS nT a g ow ky kd nu sn) (o : Nat) (k : Int64) : nu (aF a o k) = vU a o k := (h.2.2.2.2.1 _ (aF_le a o k)).2.2.2
end Inv
theorem vD_le {nT : Nat} {a : AS} (h : AI nT a) (o : Nat) (k : Int64) : vD a o k ≤ 7 := h.2.2.1 _
