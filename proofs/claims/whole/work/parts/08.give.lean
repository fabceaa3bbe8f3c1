/-! how often the rows of fields have grown, when n keys are there -/
def gFa : Nat → Nat → Nat → Nat
  | 0, g, _ => g
  | k + 1, g, n => if n < hz_L g then g else gFa k (g + 1) n
def gF (g n : Nat) : Nat := gFa 6 g n
theorem hz_L_mono : ∀ b, b ≤ 5 → ∀ a, a ≤ b → hz_L a ≤ hz_L b := by decide +kernel
theorem gF_spec {g n : Nat} (hg : g ≤ 5) (hn : n ≤ 40000) : g ≤ gF g n ∧ gF g n ≤ 5 ∧ n < hz_L (gF g n) ∧ (gF g n = g ∨ hz_L (gF g n - 1) ≤ n) := by
  have key : ∀ k g, g ≤ 5 → 5 < k + g → g ≤ gFa k g n ∧ gFa k g n ≤ 5 ∧ n < hz_L (gFa k g n) ∧ (gFa k g n = g ∨ hz_L (gFa k g n - 1) ≤ n) := by
    intro k
    induction k with
    | zero => intro g h1 h2; omega
    | succ k ih =>
      intro g h1 h2
      unfold gFa
      by_cases q : n < hz_L g
      · rw [if_pos q]; exact ⟨Nat.le_refl g, h1, q, Or.inl rfl⟩
      · rw [if_neg q]
        have g5 : g ≠ 5 := fun e => by
          rw [e, show hz_L 5 = 40001 from rfl] at q; omega
        obtain ⟨a, b, c, d⟩ := ih (g + 1) (by omega) (by omega)
        refine ⟨by omega, b, c, Or.inr ?_⟩
        rcases d with d | d
        · rw [d, Nat.add_sub_cancel]; omega
        · exact d
  exact key 6 g hg (by omega)
theorem gF_uniq {g n g' : Nat} (hg : g ≤ g') (h5 : g' ≤ 5) (hn : n ≤ 40000) (h1 : n < hz_L g') (h2 : g' = g ∨ hz_L (g' - 1) ≤ n) : gF g n = g' := by
  obtain ⟨a, b, c, d⟩ := gF_spec (g := g) (n := n) (by omega) hn
  rcases Nat.lt_trichotomy (gF g n) g' with q | q | q
  · rcases h2 with z | z
    · omega
    · have := hz_L_mono (g' - 1) (by omega) (gF g n) (by omega); omega
  · exact q
  · rcases d with z | z
    · omega
    · have := hz_L_mono (gF g n - 1) (by omega) g' (by omega); omega
theorem gF_same {g n : Nat} (hg : g ≤ 5) (hn : n ≤ 40000) (h : n < hz_L g) : gF g n = g := gF_uniq (Nat.le_refl g) hg hn h (Or.inl rfl)
theorem gF_trans {g n m : Nat} (hg : g ≤ 5) (hm : m ≤ 40000) (h : n ≤ m) : gF (gF g n) m = gF g m := by
  obtain ⟨a, b, c, d⟩ := gF_spec (g := g) (n := n) hg (by omega)
  obtain ⟨a2, b2, c2, d2⟩ := gF_spec (g := gF g n) (n := m) b hm
  refine (gF_uniq (by omega) b2 hm c2 ?_).symm
  rcases d2 with z | z
  · rw [z]; rcases d with y | y
    · exact Or.inl y
    · exact Or.inr (by omega)
  · exact Or.inr z
theorem gF_mono {g n m : Nat} (hg : g ≤ 5) (hm : m ≤ 40000) (h : n ≤ m) : gF g n ≤ gF g m := by
  rw [← gF_trans hg hm h]
  exact (gF_spec (gF_spec hg (by omega)).2.1 hm).1
theorem gF_step {g n : Nat} (hg : g ≤ 5) (hn : n < 40000) (h : n < hz_L g) : (n + 1 < hz_L g ∧ gF g (n + 1) = g) ∨ (hz_L g ≤ n + 1 ∧ gF g (n + 1) = g + 1) := by
  by_cases q : n + 1 < hz_L g
  · exact Or.inl ⟨q, gF_same hg (by omega) q⟩
  · have g5 : g < 5 := by
      rcases Nat.lt_or_ge g 5 with z | z
      · exact z
      · have e : g = 5 := by omega
        rw [e, show hz_L 5 = 40001 from rfl] at q; omega
    have := (hz_grow g g5).2.2
    refine Or.inr ⟨by omega, gF_uniq (by omega) (by omega) (by omega) (by omega) (Or.inr ?_)⟩
    rw [Nat.add_sub_cancel]; omega
theorem Gs_mono {a b : Nat} (h : a ≤ b) : Gs a ≤ Gs b := by
  induction b with
  | zero => rw [Nat.le_zero.mp h]; exact Nat.le_refl _
  | succ b ih =>
    by_cases e : a = b + 1
    · rw [e]; exact Nat.le_refl _
    · have := ih (by omega)
      show Gs a ≤ Gs b + _
      omega
theorem CS.add {nT g g2 t kk : Nat} {a : AS} {k : Int64} {ow ow2 : Nat → Nat} {ky ky2 : Nat → Int64} {kd kd2 : Nat → Nat} {nu nu2 : Nat → Int64} {fo fo2 sn sn2 : Nat → Nat} (h : CS nT a g ow ky kd nu sn) (ht : 1 ≤ t) (ht2 : t ≤ nT) (hk1 : 1 ≤ kk) (hk2 : kk < 8) (hr : aN a < 40000) (hf : aF a (t * 8 + kk) k = 0) (hg2 : g2 ≤ 5) (hL : aN a + 1 < hz_L g2)
    (hA : ∀ i, i ≤ aN a → ow2 i = ow i ∧ ky2 i = ky i ∧ kd2 i = kd i ∧ nu2 i = nu i ∧ fo2 i = fo i) (h1 : ow2 (aN a + 1) = t * 8 + kk) (h2 : ky2 (aN a + 1) = k) (h3 : kd2 (aN a + 1) = 0) (h4 : nu2 (aN a + 1) = 0) (h5 : ∀ i, kd2 i < 128) (h6 : hz_T (hz_M g2) (aN a + 1) (fun i => hz_h (hz_M g2) (ow2 i) (ky2 i)) sn2) : CS nT (addA a (t * 8 + kk) k 0 0) g2 ow2 ky2 kd2 nu2 sn2 := by
  obtain ⟨q1, q2, q3, q4, q5, q6, q7⟩ := h
  refine ⟨q1.add q2 ht ht2 hk1 hk2 hr hf (by omega) (fun _ => rfl), q2, hg2, hL, fun i hi => ?_, h5, h6⟩
  have hi : i ≤ aN a + 1 := hi
  show ow2 i = va_up (aO a) (aN a + 1) (t * 8 + kk) i ∧ ky2 i = va_up (aK a) (aN a + 1) k i ∧ kd2 i = va_up (aD a) (aN a + 1) 0 i ∧ nu2 i = va_up (aU a) (aN a + 1) 0 i
  by_cases e : i = aN a + 1
  · rw [e, va_up_self, va_up_self, va_up_self, va_up_self]; exact ⟨h1, h2, h3, h4⟩
  · rw [va_up_ne _ _ e, va_up_ne _ _ e, va_up_ne _ _ e, va_up_ne _ _ e]
    obtain ⟨p1, p2, p3, p4, _⟩ := hA i (by omega)
    obtain ⟨r1, r2, r3, r4⟩ := q5 i (by omega)
    exact ⟨p1.trans r1, p2.trans r2, p3.trans r3, p4.trans r4⟩
theorem comeA_0 {a : AS} {o : Nat} {k : Int64} {kd : Nat} (h : aF a o k ≠ 0) : comeA a o k kd = 0 := if_neg h
theorem comeA_n {a : AS} {o : Nat} {k : Int64} (h : aF a o k = 0) : comeA a o k 0 = 0 := by unfold comeA; rw [if_pos h, if_pos rfl]
theorem comeA_1 {a : AS} {o : Nat} {k : Int64} {kd : Nat} (h : aF a o k = 0) (hk : kd ≠ 0) : comeA a o k kd = 1 := by unfold comeA; rw [if_pos h, if_neg hk]
theorem comeA_le (a : AS) (o : Nat) (k : Int64) (kd : Nat) : comeA a o k kd ≤ 1 := by unfold comeA; split <;> (try split) <;> omega
theorem giveA_0 {a : AS} {o : Nat} {k : Int64} {kd : Nat} {nu : Int64} (h : aF a o k ≠ 0) : giveA a o k kd nu = setA a (aF a o k) kd (if kd = 0 then 0 else nu) := if_neg h
theorem giveA_n {a : AS} {o : Nat} {k : Int64} {nu : Int64} (h : aF a o k = 0) : giveA a o k 0 nu = a := by unfold giveA; rw [if_pos h, if_pos rfl]
theorem giveA_1 {a : AS} {o : Nat} {k : Int64} {kd : Nat} {nu : Int64} (h : aF a o k = 0) (hk : kd ≠ 0) : giveA a o k kd nu = addA a o k kd nu := by unfold giveA; rw [if_pos h, if_neg hk]
