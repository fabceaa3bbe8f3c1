/-! all fields of one table into another -/
def cpA (a : AS) (to fr : Nat) : Nat → AS
  | 0 => a
  | j + 1 => if aO a (j + 1) / 8 = fr ∧ aD a (j + 1) ≠ 0 then giveA (cpA a to fr j) (to * 8 + aO a (j + 1) % 8) (aK a (j + 1)) (aD a (j + 1)) (aU a (j + 1)) else cpA a to fr j
def mcA (a : AS) (to fr : Nat) : Nat → Nat
  | 0 => 0
  | j + 1 => mcA a to fr j + (if (aO a (j + 1) / 8 = fr ∧ aD a (j + 1) ≠ 0) ∧ aF a (to * 8 + aO a (j + 1) % 8) (aK a (j + 1)) = 0 then 1 else 0)
def fCopyG (a : AS) (to fr : Nat) : Int32 × AS := if 40000 < aN a + mcA a to fr (aN a) then (-3, a) else (nI (mcA a to fr (aN a)), cpA a to fr (aN a))
noncomputable def fCopy (nT : Nat) (a : AS) (x y : Int32) : Int32 × AS := ifc (okT nT x ∧ okT nT y) (fCopyG a (tN x) (tN y)) (-1, a)
theorem give_at {a : AS} {o : Nat} {k : Int64} {kd : Nat} {nu : Int64} {i : Nat} (hi : i ≤ aN a) : aO (giveA a o k kd nu) i = aO a i ∧ aK (giveA a o k kd nu) i = aK a i ∧ ((aF a o k ≠ i ∨ i = 0) → aD (giveA a o k kd nu) i = aD a i ∧ aU (giveA a o k kd nu) i = aU a i) ∧ (1 ≤ i → aF a o k = i → aD (giveA a o k kd nu) i = kd ∧ aU (giveA a o k kd nu) i = (if kd = 0 then 0 else nu)) := by
  unfold giveA
  by_cases q : aF a o k = 0
  · rw [if_pos q]
    by_cases z : kd = 0
    · rw [if_pos z]
      exact ⟨rfl, rfl, fun _ => ⟨rfl, rfl⟩, fun h1 h2 => by omega⟩
    · rw [if_neg z]
      exact ⟨va_up_ne _ _ (by omega), va_up_ne _ _ (by omega), fun _ => ⟨va_up_ne _ _ (by omega), va_up_ne _ _ (by omega)⟩, fun h1 h2 => by omega⟩
  · rw [if_neg q]
    refine ⟨rfl, rfl, fun h => ⟨va_up_ne _ _ (by omega), va_up_ne _ _ (by omega)⟩, fun h1 h2 => ?_⟩
    rw [← h2]
    exact ⟨va_up_self _ _ _, va_up_self _ _ _⟩
theorem give_new {a : AS} {o : Nat} {k : Int64} {kd : Nat} {nu : Int64} {i : Nat} (h1 : aN a < i) (h2 : i ≤ aN (giveA a o k kd nu)) : aF a o k = 0 ∧ aO (giveA a o k kd nu) i = o := by
  rw [giveA_N] at h2
  have hc := comeA_le a o k kd
  by_cases q : aF a o k = 0
  · by_cases z : kd = 0
    · rw [z, comeA_k0] at h2; omega
    · rw [giveA_1 q z, show i = aN a + 1 by omega]
      exact ⟨q, va_up_self _ _ _⟩
  · rw [comeA_0 q] at h2; omega
def cpI (nT : Nat) (a : AS) (to fr j : Nat) : Prop := AI nT (cpA a to fr j) ∧ aN (cpA a to fr j) = aN a + mcA a to fr j ∧ (∀ i, i ≤ aN a → aO (cpA a to fr j) i = aO a i ∧ aK (cpA a to fr j) i = aK a i) ∧ (∀ i, 1 ≤ i → i ≤ aN a → aO a i / 8 = fr → aD (cpA a to fr j) i = aD a i ∧ aU (cpA a to fr j) i = aU a i) ∧ (∀ i, aN a < i → i ≤ aN (cpA a to fr j) → aO (cpA a to fr j) i / 8 ≠ fr) ∧ ∀ m, j < m → m ≤ aN a → aO a m / 8 = fr → aF (cpA a to fr j) (to * 8 + aO a m % 8) (aK a m) = aF a (to * 8 + aO a m % 8) (aK a m)
theorem cpA_all {nT to fr : Nat} {a : AS} (h : AI nT a) (hn : nT ≤ 30000) (h1 : 1 ≤ to) (h2 : to ≤ nT) : ∀ j, j ≤ aN a → aN a + mcA a to fr j ≤ 40000 → cpI nT a to fr j
  | 0, _, _ => ⟨h, rfl, fun _ _ => ⟨rfl, rfl⟩, fun _ _ _ _ => ⟨rfl, rfl⟩, fun i a1 (a2 : i ≤ aN a) => by omega, fun _ _ _ _ => rfl⟩
  | j + 1, hj, hr => by
    by_cases g : aO a (j + 1) / 8 = fr ∧ aD a (j + 1) ≠ 0
    · have eA : cpA a to fr (j + 1) = giveA (cpA a to fr j) (to * 8 + aO a (j + 1) % 8) (aK a (j + 1)) (aD a (j + 1)) (aU a (j + 1)) := if_pos g
      have eM : mcA a to fr (j + 1) = mcA a to fr j + (if aF a (to * 8 + aO a (j + 1) % 8) (aK a (j + 1)) = 0 then 1 else 0) := by
        show mcA a to fr j + _ = _
        by_cases z : aF a (to * 8 + aO a (j + 1) % 8) (aK a (j + 1)) = 0
        · rw [if_pos ⟨g, z⟩, if_pos z]
        · rw [if_neg (fun c => z c.2), if_neg z]
      obtain ⟨q1, q2, q3, q4, q5, q6⟩ := cpA_all (fr := fr) h hn h1 h2 j (by omega) (by omega)
      have hF := q6 (j + 1) (by omega) hj g.1
      have hC : comeA (cpA a to fr j) (to * 8 + aO a (j + 1) % 8) (aK a (j + 1)) (aD a (j + 1)) = if aF a (to * 8 + aO a (j + 1) % 8) (aK a (j + 1)) = 0 then 1 else 0 := by
        unfold comeA; rw [hF, if_neg g.2]
      have hk := (h.2.1 (j + 1) (by omega) hj).2.2
      have hle : aN a ≤ aN (cpA a to fr j) := by omega
      unfold cpI
      rw [eA]
      refine ⟨q1.give hn h1 h2 hk (by omega) (h.2.2.1 _) (by rw [hC]; omega), by rw [giveA_N, hC, eM]; omega, fun i hi => ?_, fun i i1 i2 i3 => ?_, fun i i1 i2 => ?_, fun m m1 m2 m3 => ?_⟩
      · have := give_at (o := to * 8 + aO a (j + 1) % 8) (k := aK a (j + 1)) (kd := aD a (j + 1)) (nu := aU a (j + 1)) (show i ≤ aN (cpA a to fr j) by omega)
        exact ⟨this.1.trans (q3 i hi).1, this.2.1.trans (q3 i hi).2⟩
      · have w := give_at (o := to * 8 + aO a (j + 1) % 8) (k := aK a (j + 1)) (kd := aD a (j + 1)) (nu := aU a (j + 1)) (show i ≤ aN (cpA a to fr j) by omega)
        by_cases z : aF (cpA a to fr j) (to * 8 + aO a (j + 1) % 8) (aK a (j + 1)) = i
        · have y := aF_hit (a := cpA a to fr j) (o := to * 8 + aO a (j + 1) % 8) (k := aK a (j + 1)) (by omega)
          rw [z, (q3 i i2).1, (q3 i i2).2] at y
          have eo : aO a i = aO a (j + 1) := by
            have y1 := y.1
            have g1 := g.1
            omega
          have ei := h.2.2.2.2.2.2.1 i (j + 1) i1 i2 (by omega) hj eo y.2
          have x := w.2.2.2 i1 z
          rw [if_neg g.2] at x
          rw [ei] at x ⊢
          exact x
        · have x := w.2.2.1 (Or.inl z)
          exact ⟨x.1.trans (q4 i i1 i2 i3).1, x.2.trans (q4 i i1 i2 i3).2⟩
      · rcases Nat.lt_or_ge (aN (cpA a to fr j)) i with z | z
        · obtain ⟨x1, x2⟩ := give_new z i2
          rw [x2]
          intro e
          have ef : to = fr := by omega
          rw [hF] at x1
          have : aF a (aO a (j + 1)) (aK a (j + 1)) = j + 1 := fnd_uniq h.2.2.2.2.2.2.1 (by omega) hj rfl rfl
          rw [show to * 8 + aO a (j + 1) % 8 = aO a (j + 1) by have := g.1; omega, this] at x1
          omega
        · rw [(give_at z).1]; exact q5 i i1 z
      · rw [aF_give0 (fun e => by
          have e1 := e.1
          have g1 := g.1
          have eo : aO a (j + 1) = aO a m := by omega
          have := h.2.2.2.2.2.2.1 (j + 1) m (by omega) hj (by omega) m2 eo e.2
          omega)]
        exact q6 m (by omega) m2 m3
    · have eA : cpA a to fr (j + 1) = cpA a to fr j := if_neg g
      have eM : mcA a to fr (j + 1) = mcA a to fr j := by
        show mcA a to fr j + _ = _
        rw [if_neg (fun c => g c.1), Nat.add_zero]
      obtain ⟨q1, q2, q3, q4, q5, q6⟩ := cpA_all (fr := fr) h hn h1 h2 j (by omega) (by omega)
      unfold cpI
      rw [eA, eM]
      exact ⟨q1, q2, q3, q4, q5, fun m m1 m2 m3 => q6 m (by omega) m2 m3⟩
theorem cpA_skip {a : AS} {to fr q : Nat} : ∀ {p : Nat}, q ≤ p → (∀ m, q < m → m ≤ p → aO a m / 8 ≠ fr) → cpA a to fr p = cpA a to fr q ∧ mcA a to fr p = mcA a to fr q
  | 0, h, _ => by rw [Nat.le_zero.mp h]; exact ⟨rfl, rfl⟩
  | p + 1, h, hf => by
    by_cases e : q = p + 1
    · rw [e]; exact ⟨rfl, rfl⟩
    · obtain ⟨i1, i2⟩ := cpA_skip (to := to) (p := p) (q := q) (fr := fr) (a := a) (by omega) (fun m m1 m2 => hf m m1 (by omega))
      have g : ¬ (aO a (p + 1) / 8 = fr ∧ aD a (p + 1) ≠ 0) := fun c => hf (p + 1) (by omega) (Nat.le_refl _) c.1
      refine ⟨(if_neg g : cpA a to fr (p + 1) = _).trans i1, ?_⟩
      show mcA a to fr p + _ = _
      rw [if_neg (fun c => g c.1), Nat.add_zero]; exact i2
theorem mcA_mono (a : AS) (to fr : Nat) {j : Nat} : ∀ {n : Nat}, j ≤ n → mcA a to fr j ≤ mcA a to fr n
  | 0, h => by rw [Nat.le_zero.mp h]; exact Nat.le_refl _
  | n + 1, h => by
    by_cases e : j = n + 1
    · rw [e]; exact Nat.le_refl _
    · have := mcA_mono a to fr (j := j) (n := n) (by omega)
      show _ ≤ mcA a to fr n + _
      omega
theorem mcA_le (a : AS) (to fr : Nat) : ∀ n, mcA a to fr n ≤ n
  | 0 => Nat.le_refl _
  | n + 1 => by
    have := mcA_le a to fr n
    show mcA a to fr n + _ ≤ _
    split <;> omega
theorem mcA_cV (a : AS) (to fr : Nat) : ∀ n, mcA a to fr n ≤ cnt (fun i => aO a i / 8 == fr && aD a i != 0) n
  | 0 => Nat.le_refl _
  | n + 1 => by
    have := mcA_cV a to fr n
    show mcA a to fr n + _ ≤ cnt _ n + _
    by_cases g : aO a (n + 1) / 8 = fr ∧ aD a (n + 1) ≠ 0
    · rw [if_pos (show (aO a (n + 1) / 8 == fr && aD a (n + 1) != 0) = true by rw [g.1, beq_self_eq_true, bne_iff_ne.mpr g.2]; rfl)]
      split <;> omega
    · rw [if_neg (fun c => g c.1)]; omega
/-- the chain of a table as it was, out of the one as it is -/
theorem ch_N.back {ow ow' : Nat → Nat} {t n n' q j : Nat} (h : ch_N ow' t n' q j) (hn : n ≤ n') (he : ∀ i, i ≤ n → ow' i = ow i) (hx : ∀ i, n < i → i ≤ n' → ow' i / 8 ≠ t) : ch_N ow t n q j := by
  rcases h with ⟨z, w⟩ | ⟨z1, z2, z3, z4⟩
  · exact Or.inl ⟨z, fun k k1 k2 => by rw [← he k k2]; exact w k k1 (by omega)⟩
  · rcases Nat.lt_or_ge n j with y | y
    · exact absurd z3 (hx j y z2)
    · exact Or.inr ⟨z1, y, by rw [← he j y]; exact z3, fun k k1 k2 => by rw [← he k (by omega)]; exact z4 k k1 k2⟩
/-! the same fields -/
def subA (a : AS) (s t : Nat) : Prop := ∀ i, 1 ≤ i → i ≤ aN a → aO a i / 8 = s → aD a i ≠ 0 → aD a i = aD a (aF a (t * 8 + aO a i % 8) (aK a i)) ∧ aU a i = aU a (aF a (t * 8 + aO a i % 8) (aK a i))
noncomputable def fSame (nT : Nat) (a : AS) (x y : Int32) : Int32 := ifc (okT nT x ∧ okT nT y) (ifc (subA a (tN x) (tN y) ∧ subA a (tN y) (tN x)) (nI 1) (nI 0)) (-1)
theorem cnt_inj {N : Nat} (f : Nat → Nat) : ∀ (n : Nat) (p q : Nat → Bool), (∀ i, 1 ≤ i → i ≤ n → p i = true → 1 ≤ f i ∧ f i ≤ N ∧ q (f i) = true) → (∀ i j, 1 ≤ i → i ≤ n → 1 ≤ j → j ≤ n → p i = true → p j = true → f i = f j → i = j) → cnt p n ≤ cnt q N
  | 0, _, _, _, _ => Nat.zero_le _
  | n + 1, p, q, h, inj => by
    by_cases e : p (n + 1) = true
    · obtain ⟨f1, f2, f3⟩ := h (n + 1) (by omega) (Nat.le_refl _) e
      have i := cnt_inj f n p (fun y => q y && (y != f (n + 1))) (fun i i1 i2 i3 => by
        obtain ⟨g1, g2, g3⟩ := h i i1 (by omega) i3
        refine ⟨g1, g2, ?_⟩
        show (q (f i) && (f i != f (n + 1))) = true
        rw [g3, bne_iff_ne.mpr (fun c => by have := inj i (n + 1) i1 (by omega) (by omega) (Nat.le_refl _) i3 e c; omega)]; rfl) (fun i j i1 i2 j1 j2 => inj i j i1 (by omega) j1 (by omega))
      have c := cnt_one (p := fun y => q y && (y != f (n + 1))) (q := q) f1 f2 (fun j j1 j2 j3 => by show q j = (q j && (j != f (n + 1))); rw [bne_iff_ne.mpr j3, Bool.and_true]) (by show (q (f (n + 1)) && (f (n + 1) != f (n + 1))) = false; rw [bne_self_eq_false, Bool.and_false]) f3
      show cnt p n + _ ≤ _
      rw [if_pos e]; omega
    · have i := cnt_inj f n p q (fun i i1 i2 => h i i1 (by omega)) (fun i j i1 i2 j1 j2 => inj i j i1 (by omega) j1 (by omega))
      show cnt p n + _ ≤ _
      rw [if_neg e]; omega
theorem sub_le {nT s t : Nat} {a : AS} (h : AI nT a) (hs : subA a s t) (z : Nat) (hz : ∀ i, 1 ≤ i → i ≤ aN a → aO a i / 8 = s → aD a i ≠ 0 → aF a (t * 8 + aO a i % 8) (aK a i) ≠ z) : cV a s ≤ cnt (fun y => (aO a y / 8 == t && aD a y != 0) && (y != z)) (aN a) := by
  refine cnt_inj (fun i => aF a (t * 8 + aO a i % 8) (aK a i)) (aN a) _ _ (fun i i1 i2 i3 => ?_) (fun i j i1 i2 j1 j2 ip jp e => ?_)
  · have i3 : (aO a i / 8 == s && aD a i != 0) = true := i3
    rw [Bool.and_eq_true, beq_iff_eq, bne_iff_ne] at i3
    have q := (hs i i1 i2 i3.1 i3.2).1
    have nz : aF a (t * 8 + aO a i % 8) (aK a i) ≠ 0 := fun c => by rw [c, h.2.2.2.1] at q; exact i3.2 q
    have hh := aF_hit nz
    refine ⟨Nat.pos_of_ne_zero nz, aF_le _ _ _, ?_⟩
    show ((aO a (aF a (t * 8 + aO a i % 8) (aK a i)) / 8 == t && aD a (aF a (t * 8 + aO a i % 8) (aK a i)) != 0) && (aF a (t * 8 + aO a i % 8) (aK a i) != z)) = true
    rw [hh.1, ← q, bne_iff_ne.mpr i3.2, bne_iff_ne.mpr (hz i i1 i2 i3.1 i3.2), beq_iff_eq.mpr (show (t * 8 + aO a i % 8) / 8 = t by omega)]; rfl
  · have ip : (aO a i / 8 == s && aD a i != 0) = true := ip
    have jp : (aO a j / 8 == s && aD a j != 0) = true := jp
    rw [Bool.and_eq_true, beq_iff_eq, bne_iff_ne] at ip jp
    have e : aF a (t * 8 + aO a i % 8) (aK a i) = aF a (t * 8 + aO a j % 8) (aK a j) := e
    have q := (hs i i1 i2 ip.1 ip.2).1
    have nz : aF a (t * 8 + aO a i % 8) (aK a i) ≠ 0 := fun c => by rw [c, h.2.2.2.1] at q; exact ip.2 q
    have hi := aF_hit nz
    have hj := aF_hit (a := a) (o := t * 8 + aO a j % 8) (k := aK a j) (by rw [← e]; exact nz)
    rw [e] at hi
    have e1 := hi.1.symm.trans hj.1
    have e2 := hi.2.symm.trans hj.2
    exact h.2.2.2.2.2.2.1 i j i1 i2 j1 j2 (by omega) e2
theorem sub_cV {nT s t : Nat} {a : AS} (h : AI nT a) (hs : subA a s t) : cV a s ≤ cV a t := by
  have := sub_le h hs (aN a + 1) (fun i _ _ _ _ => by have := aF_le a (t * 8 + aO a i % 8) (aK a i); omega)
  refine Nat.le_trans this (Nat.le_of_eq (cnt_congr (fun j _ j2 => ?_)))
  show ((aO a j / 8 == t && aD a j != 0) && (j != aN a + 1)) = (aO a j / 8 == t && aD a j != 0)
  rw [show (j != aN a + 1) = true from bne_iff_ne.mpr (by omega), Bool.and_true]
theorem sub_eq {nT s t : Nat} {a : AS} (h : AI nT a) (hs : subA a s t) (hc : cV a s = cV a t) : subA a t s := by
  intro i i1 i2 i3 i4
  by_cases z : ∃ m, 1 ≤ m ∧ m ≤ aN a ∧ aO a m / 8 = s ∧ aD a m ≠ 0 ∧ aF a (t * 8 + aO a m % 8) (aK a m) = i
  · obtain ⟨m, m1, m2, m3, m4, m5⟩ := z
    have hh := aF_hit (a := a) (o := t * 8 + aO a m % 8) (k := aK a m) (by omega)
    rw [m5] at hh
    have eb := hs m m1 m2 m3 m4
    rw [m5] at eb
    have ef : aF a (s * 8 + aO a i % 8) (aK a i) = m := by
      rw [hh.1, hh.2, show s * 8 + (t * 8 + aO a m % 8) % 8 = aO a m by omega]
      exact fnd_uniq h.2.2.2.2.2.2.1 m1 m2 rfl rfl
    rw [ef]; exact ⟨eb.1.symm, eb.2.symm⟩
  · exfalso
    have k1 := sub_le h hs i (fun m m1 m2 m3 m4 m5 => z ⟨m, m1, m2, m3, m4, m5⟩)
    have k2 := cnt_one (p := fun y => (aO a y / 8 == t && aD a y != 0) && (y != i)) (q := fun y => aO a y / 8 == t && aD a y != 0) i1 i2 (fun j j1 j2 j3 => by show (aO a j / 8 == t && aD a j != 0) = ((aO a j / 8 == t && aD a j != 0) && (j != i)); rw [bne_iff_ne.mpr j3, Bool.and_true]) (by show ((aO a i / 8 == t && aD a i != 0) && (i != i)) = false; rw [bne_self_eq_false, Bool.and_false]) (by show (aO a i / 8 == t && aD a i != 0) = true; rw [beq_iff_eq.mpr i3, bne_iff_ne.mpr i4]; rfl)
    have : cV a t = cnt (fun y => aO a y / 8 == t && aD a y != 0) (aN a) := rfl
    omega
