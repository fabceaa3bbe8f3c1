/-! what all tables hold: how many keys, and for each in the order of coming its owner (table * 8 + kind), its number, the kind and the number of its field -/
abbrev AS : Type := Nat × (Nat → Nat) × (Nat → Int64) × (Nat → Nat) × (Nat → Int64)
def aN (a : AS) : Nat := a.1
def aO (a : AS) : Nat → Nat := a.2.1
def aK (a : AS) : Nat → Int64 := a.2.2.1
def aD (a : AS) : Nat → Nat := a.2.2.2.1
def aU (a : AS) : Nat → Int64 := a.2.2.2.2
/-- the place of a key, or 0 -/
def aF (a : AS) (o : Nat) (k : Int64) : Nat := fnd (aO a) (aK a) o k (aN a)
def addA (a : AS) (o : Nat) (k : Int64) (kd : Nat) (nu : Int64) : AS := (aN a + 1, va_up (aO a) (aN a + 1) o, va_up (aK a) (aN a + 1) k, va_up (aD a) (aN a + 1) kd, va_up (aU a) (aN a + 1) nu)
def setA (a : AS) (i kd : Nat) (nu : Int64) : AS := (aN a, aO a, aK a, va_up (aD a) i kd, va_up (aU a) i nu)
def giveA (a : AS) (o : Nat) (k : Int64) (kd : Nat) (nu : Int64) : AS := if aF a o k = 0 then (if kd = 0 then a else addA a o k kd nu) else setA a (aF a o k) kd (if kd = 0 then 0 else nu)
def comeA (a : AS) (o : Nat) (k : Int64) (kd : Nat) : Nat := if aF a o k = 0 then (if kd = 0 then 0 else 1) else 0
def AI (nT : Nat) (a : AS) : Prop := aN a ≤ 40000 ∧ (∀ i, 1 ≤ i → i ≤ aN a → 1 ≤ aO a i / 8 ∧ aO a i / 8 ≤ nT ∧ 1 ≤ aO a i % 8) ∧ (∀ i, aD a i ≤ 7) ∧ aD a 0 = 0 ∧ aU a 0 = 0 ∧ (∀ i, i ≤ aN a → aD a i = 0 → aU a i = 0) ∧ hz_U (aN a) (aO a) (aK a) ∧ ∀ i, aO a i < 2 ^ 18
theorem aF_le (a : AS) (o : Nat) (k : Int64) : aF a o k ≤ aN a := fnd_le _ _ _ _ _
theorem AI.set {nT : Nat} {a : AS} {i kd : Nat} {nu : Int64} (h : AI nT a) (h0 : 1 ≤ i) (hk : kd ≤ 7) (hz : kd = 0 → nu = 0) : AI nT (setA a i kd nu) := by
  obtain ⟨h1, h2, h3, h4, h5, h6, h7, h8⟩ := h
  refine ⟨h1, h2, fun j => ?_, ?_, ?_, fun j hj e => ?_, h7, h8⟩
  · show va_up (aD a) i kd j ≤ 7
    unfold va_up; split
    · exact hk
    · exact h3 j
  · show va_up (aD a) i kd 0 = 0
    rw [va_up_ne _ _ (by omega)]; exact h4
  · show va_up (aU a) i nu 0 = 0
    rw [va_up_ne _ _ (by omega)]; exact h5
  · have e : va_up (aD a) i kd j = 0 := e
    show va_up (aU a) i nu j = 0
    unfold va_up at e ⊢
    split
    · rename_i q; rw [if_pos q] at e; exact hz e
    · rename_i q; rw [if_neg q] at e; exact h6 j hj e
theorem AI.add {nT t kk : Nat} {a : AS} {k : Int64} {kd : Nat} {nu : Int64} (h : AI nT a) (hnT : nT ≤ 30000) (ht : 1 ≤ t) (ht2 : t ≤ nT) (hk1 : 1 ≤ kk) (hk2 : kk < 8) (hr : aN a < 40000) (hf : aF a (t * 8 + kk) k = 0) (hk : kd ≤ 7) (hz : kd = 0 → nu = 0) : AI nT (addA a (t * 8 + kk) k kd nu) := by
  obtain ⟨h1, h2, h3, h4, h5, h6, h7, h8⟩ := h
  refine ⟨hr, fun i hi hi2 => ?_, fun j => ?_, ?_, ?_, fun j hj e => ?_, ?_, fun j => ?_⟩
  · have hi2 : i ≤ aN a + 1 := hi2
    show 1 ≤ va_up (aO a) (aN a + 1) (t * 8 + kk) i / 8 ∧ va_up (aO a) (aN a + 1) (t * 8 + kk) i / 8 ≤ nT ∧ 1 ≤ va_up (aO a) (aN a + 1) (t * 8 + kk) i % 8
    unfold va_up; split
    · omega
    · exact h2 i hi (by omega)
  · show va_up (aD a) (aN a + 1) kd j ≤ 7
    unfold va_up; split
    · exact hk
    · exact h3 j
  · show va_up (aD a) (aN a + 1) kd 0 = 0
    rw [va_up_ne _ _ (by omega)]; exact h4
  · show va_up (aU a) (aN a + 1) nu 0 = 0
    rw [va_up_ne _ _ (by omega)]; exact h5
  · have hj : j ≤ aN a + 1 := hj
    have e : va_up (aD a) (aN a + 1) kd j = 0 := e
    show va_up (aU a) (aN a + 1) nu j = 0
    unfold va_up at e ⊢
    split
    · rename_i q; rw [if_pos q] at e; exact hz e
    · rename_i q; rw [if_neg q] at e; exact h6 j (by omega) e
  · refine hz_U.add h7 (fun j hj1 hj2 => ⟨va_up_ne _ _ (by omega), va_up_ne _ _ (by omega)⟩) ?_
    show fnd (aO a) (aK a) (va_up (aO a) (aN a + 1) (t * 8 + kk) (aN a + 1)) (va_up (aK a) (aN a + 1) k (aN a + 1)) (aN a) = 0
    rw [va_up_self, va_up_self]; exact hf
  · show va_up (aO a) (aN a + 1) (t * 8 + kk) j < 2 ^ 18
    unfold va_up; split
    · omega
    · exact h8 j
theorem AI.give {nT t kk : Nat} {a : AS} {k : Int64} {kd : Nat} {nu : Int64} (h : AI nT a) (hnT : nT ≤ 30000) (ht : 1 ≤ t) (ht2 : t ≤ nT) (hk1 : 1 ≤ kk) (hk2 : kk < 8) (hk : kd ≤ 7) (hr : aN a + comeA a (t * 8 + kk) k kd ≤ 40000) : AI nT (giveA a (t * 8 + kk) k kd nu) := by
  unfold giveA
  unfold comeA at hr
  split
  · rename_i q
    split
    · exact h
    · rename_i z
      rw [if_pos q, if_neg z] at hr
      exact h.add hnT ht ht2 hk1 hk2 (by omega) q hk (fun e => absurd e z)
  · rename_i q
    exact h.set (by omega) hk (fun e => by rw [if_pos e])
theorem giveA_N (a : AS) (o : Nat) (k : Int64) (kd : Nat) (nu : Int64) : aN (giveA a o k kd nu) = aN a + comeA a o k kd := by
  unfold giveA comeA
  split
  · split
    · rfl
    · rfl
  · rfl
/-! the chain of a table's keys -/
def ch_N (ow : Nat → Nat) (t n i j : Nat) : Prop := (j = 0 ∧ ∀ k, i < k → k ≤ n → ow k / 8 ≠ t) ∨ (i < j ∧ j ≤ n ∧ ow j / 8 = t ∧ ∀ k, i < k → k < j → ow k / 8 ≠ t)
def ch_L (ow : Nat → Nat) (t n j : Nat) : Prop := (j = 0 ∧ ∀ k, 1 ≤ k → k ≤ n → ow k / 8 ≠ t) ∨ (1 ≤ j ∧ j ≤ n ∧ ow j / 8 = t ∧ ∀ k, j < k → k ≤ n → ow k / 8 ≠ t)
def cK (a : AS) (t : Nat) : Nat := cnt (fun i => aO a i / 8 == t) (aN a)
def cV (a : AS) (t : Nat) : Nat := cnt (fun i => aO a i / 8 == t && aD a i != 0) (aN a)
/-- the kind of the field of a whole number -/
def wK (a : AS) (t k : Nat) : Nat := aD a (aF a (t * 8 + 3) (lN k))
def isB (a : AS) (t b : Nat) : Prop := (∀ k, 1 ≤ k → k ≤ b → wK a t k ≠ 0) ∧ wK a t (b + 1) = 0
theorem lN_ne {i j : Nat} (hi : i < 2 ^ 63) (hj : j < 2 ^ 63) (h : lN i = lN j) : i = j := (pk_lEQ hi hj).mp h
theorem aF_hit {a : AS} {o : Nat} {k : Int64} (h : aF a o k ≠ 0) : aO a (aF a o k) = o ∧ aK a (aF a o k) = k := fnd_hit h
theorem isB.le {nT : Nat} {a : AS} {t b : Nat} (h : AI nT a) (hb : isB a t b) : b ≤ aN a := by
  rcases Nat.lt_or_ge (aN a) b with q | q
  · have h40 := h.1
    have nz : ∀ j, j < aN a + 1 → aF a (t * 8 + 3) (lN (j + 1)) ≠ 0 := fun j hj e => by
      have := hb.1 (j + 1) (by omega) (by omega)
      unfold wK at this
      rw [e, h.2.2.2.1] at this
      exact this rfl
    have := hz_pigeon (aN a) (aN a + 1) (fun j => aF a (t * 8 + 3) (lN (j + 1))) (fun j hj => ⟨Nat.pos_of_ne_zero (nz j hj), aF_le _ _ _⟩) (fun i j hi hj e => by
      have e : aF a (t * 8 + 3) (lN (i + 1)) = aF a (t * 8 + 3) (lN (j + 1)) := e
      have a1 := (aF_hit (nz i hi)).2
      have a2 := (aF_hit (nz j hj)).2
      rw [e, a2] at a1
      have := lN_ne (by omega) (by omega) a1
      omega)
    omega
  · exact q
theorem isB.uniq {a : AS} {t b b' : Nat} (h : isB a t b) (h' : isB a t b') : b = b' := by
  rcases Nat.lt_trichotomy b b' with q | q | q
  · exact absurd h.2 (h'.1 (b + 1) (by omega) (by omega))
  · exact q
  · exact absurd h'.2 (h.1 (b' + 1) (by omega) (by omega))
def ci_F (n : Nat) (ow fo : Nat → Nat) : Prop := ∀ i, 1 ≤ i → i ≤ n → ch_N ow (ow i / 8) n i (fo i)
/-- a key comes: the chains behind it (last: the table's last one before, or 0) -/
theorem ci_F.app {n t o last : Nat} {ow ow' fo fo' : Nat → Nat} (h : ci_F n ow fo) (hL : ch_L ow t n last) (ho : o / 8 = t) (how : ∀ i, i ≤ n → ow' i = ow i) (hon : ow' (n + 1) = o) (hfo : ∀ i, i ≤ n → i ≠ last → fo' i = fo i) (hfn : fo' (n + 1) = 0) (hfl : last ≠ 0 → fo' last = n + 1) : ci_F (n + 1) ow' fo' := by
  intro i h1 h2
  by_cases e : i = n + 1
  · subst e
    exact Or.inl ⟨hfn, fun k a b => by omega⟩
  · have hi : i ≤ n := by omega
    rw [how i hi]
    by_cases el : i = last
    · have l0 : last ≠ 0 := by omega
      rcases hL with ⟨q, _⟩ | ⟨q1, q2, q3, q4⟩
      · omega
      · refine Or.inr ⟨by rw [el, hfl l0]; omega, by rw [el, hfl l0]; omega, by rw [el, hfl l0, hon, ho, q3], fun k a b => ?_⟩
        rw [el, hfl l0] at b
        rw [how k (by omega), el, q3]
        exact q4 k (by omega) (by omega)
    · have hc := h i h1 hi
      rw [← hfo i hi el] at hc
      rcases hc with ⟨q, r⟩ | ⟨q1, q2, q3, q4⟩
      · refine Or.inl ⟨q, fun k a b => ?_⟩
        by_cases ek : k = n + 1
        · subst ek
          rw [hon, ho]
          intro et
          rcases hL with ⟨z, w⟩ | ⟨z1, z2, z3, z4⟩
          · exact w i h1 hi et.symm
          · rcases Nat.lt_trichotomy i last with y | y | y
            · exact r last y z2 (z3.trans et)
            · exact el y
            · exact z4 i y hi et.symm
        · rw [how k (by omega)]; exact r k a (by omega)
      · refine Or.inr ⟨q1, by omega, by rw [how _ q2]; exact q3, fun k a b => ?_⟩
        rw [how k (by omega)]; exact q4 k a b
theorem ch_N.app {n t o t' j : Nat} {ow ow' : Nat → Nat} (h : ch_N ow t' n 0 j) (ho : o / 8 = t) (how : ∀ i, i ≤ n → ow' i = ow i) (hon : ow' (n + 1) = o) (hne : t' ≠ t ∨ j ≠ 0) : ch_N ow' t' (n + 1) 0 j := by
  rcases h with ⟨q, r⟩ | ⟨q1, q2, q3, q4⟩
  · refine Or.inl ⟨q, fun k a b => ?_⟩
    by_cases ek : k = n + 1
    · subst ek; rw [hon, ho]; rcases hne with z | z
      · exact fun e => z e.symm
      · exact absurd q z
    · rw [how k (by omega)]; exact r k a (by omega)
  · exact Or.inr ⟨q1, by omega, by rw [how _ q2]; exact q3, fun k a b => by rw [how k (by omega)]; exact q4 k a b⟩
theorem ch_N.first {n t o : Nat} {ow ow' : Nat → Nat} (h : ch_N ow t n 0 0) (ho : o / 8 = t) (how : ∀ i, i ≤ n → ow' i = ow i) (hon : ow' (n + 1) = o) : ch_N ow' t (n + 1) 0 (n + 1) := by
  rcases h with ⟨_, r⟩ | ⟨q1, _⟩
  · exact Or.inr ⟨by omega, by omega, by rw [hon, ho], fun k a b => by rw [how k (by omega)]; exact r k a (by omega)⟩
  · omega
theorem ch_L.app {n t o t' j : Nat} {ow ow' : Nat → Nat} (h : ch_L ow t' n j) (ho : o / 8 = t) (how : ∀ i, i ≤ n → ow' i = ow i) (hon : ow' (n + 1) = o) (hne : t' ≠ t) : ch_L ow' t' (n + 1) j := by
  have hn1 : ow' (n + 1) / 8 ≠ t' := by rw [hon, ho]; exact fun e => hne e.symm
  rcases h with ⟨q, r⟩ | ⟨q1, q2, q3, q4⟩
  · refine Or.inl ⟨q, fun k a b => ?_⟩
    by_cases ek : k = n + 1
    · rw [ek]; exact hn1
    · rw [how k (by omega)]; exact r k a (by omega)
  · refine Or.inr ⟨q1, by omega, by rw [how _ q2]; exact q3, fun k a b => ?_⟩
    by_cases ek : k = n + 1
    · rw [ek]; exact hn1
    · rw [how k (by omega)]; exact q4 k a (by omega)
theorem ch_L.last {n t o : Nat} {ow' : Nat → Nat} (ho : o / 8 = t) (hon : ow' (n + 1) = o) : ch_L ow' t (n + 1) (n + 1) := Or.inr ⟨by omega, Nat.le_refl _, by rw [hon, ho], fun k a b => by omega⟩
def vD (a : AS) (o : Nat) (k : Int64) : Nat := aD a (aF a o k)
def vU (a : AS) (o : Nat) (k : Int64) : Int64 := aU a (aF a o k)
theorem aF_add (a : AS) (o : Nat) (k : Int64) (kd : Nat) (nu : Int64) (o' : Nat) (k' : Int64) : aF (addA a o k kd nu) o' k' = if o = o' ∧ k = k' then aN a + 1 else aF a o' k' := by
  show (if va_up (aO a) (aN a + 1) o (aN a + 1) = o' ∧ va_up (aK a) (aN a + 1) k (aN a + 1) = k' then aN a + 1 else fnd (va_up (aO a) (aN a + 1) o) (va_up (aK a) (aN a + 1) k) o' k' (aN a)) = _
  rw [va_up_self, va_up_self, fnd_congr (ow := aO a) (ky := aK a) (fun j h1 h2 => ⟨va_up_ne _ _ (by omega), va_up_ne _ _ (by omega)⟩)]
  rfl
theorem aF_set (a : AS) (i kd : Nat) (nu : Int64) (o' : Nat) (k' : Int64) : aF (setA a i kd nu) o' k' = aF a o' k' := rfl
theorem vD_give {nT : Nat} {a : AS} (h : AI nT a) (o : Nat) (k : Int64) (kd : Nat) (nu : Int64) (o' : Nat) (k' : Int64) : vD (giveA a o k kd nu) o' k' = if o = o' ∧ k = k' then kd else vD a o' k' := by
  unfold giveA vD
  split
  · rename_i q
    split
    · rename_i z
      split
      · rename_i e; rw [← e.1, ← e.2, q, h.2.2.2.1, z]
      · rfl
    · rw [aF_add]
      show va_up (aD a) (aN a + 1) kd _ = _
      split
      · exact va_up_self _ _ _
      · exact va_up_ne _ _ (by have := aF_le a o' k'; omega)
  · rename_i q
    rw [aF_set]
    show va_up (aD a) (aF a o k) kd _ = _
    split
    · rename_i e; rw [← e.1, ← e.2]; exact va_up_self _ _ _
    · rename_i e
      refine va_up_ne _ _ (fun c => e ?_)
      have a1 := aF_hit q
      have a2 := aF_hit (a := a) (o := o') (k := k') (by rw [c]; exact q)
      rw [c] at a2
      exact ⟨a1.1.symm.trans a2.1, a1.2.symm.trans a2.2⟩
theorem vU_give {nT : Nat} {a : AS} (h : AI nT a) (o : Nat) (k : Int64) (kd : Nat) (nu : Int64) (o' : Nat) (k' : Int64) : vU (giveA a o k kd nu) o' k' = if o = o' ∧ k = k' then (if kd = 0 then 0 else nu) else vU a o' k' := by
  unfold giveA vU
  split
  · rename_i q
    split
    · rename_i z
      split
      · rename_i e; rw [← e.1, ← e.2, q, h.2.2.2.2.1]
      · rfl
    · rename_i z
      rw [aF_add]
      show va_up (aU a) (aN a + 1) nu _ = _
      split
      · exact va_up_self _ _ _
      · exact va_up_ne _ _ (by have := aF_le a o' k'; omega)
  · rename_i q
    rw [aF_set]
    show va_up (aU a) (aF a o k) _ _ = _
    by_cases e : o = o' ∧ k = k'
    · rw [if_pos e, ← e.1, ← e.2]; exact va_up_self _ _ _
    · rw [if_neg e]
      refine va_up_ne _ _ (fun c => e ?_)
      have a1 := aF_hit q
      have a2 := aF_hit (a := a) (o := o') (k := k') (by rw [c]; exact q)
      rw [c] at a2
      exact ⟨a1.1.symm.trans a2.1, a1.2.symm.trans a2.2⟩
theorem wK_give {nT : Nat} {a : AS} (h : AI nT a) (o : Nat) (k : Int64) (kd : Nat) (nu : Int64) (t j : Nat) : wK (giveA a o k kd nu) t j = if o = t * 8 + 3 ∧ k = lN j then kd else wK a t j := vD_give h o k kd nu (t * 8 + 3) (lN j)
theorem cK_add (a : AS) (o : Nat) (k : Int64) (kd : Nat) (nu : Int64) (t : Nat) : cK (addA a o k kd nu) t = cK a t + (if o / 8 = t then 1 else 0) := by
  show cnt (fun i => va_up (aO a) (aN a + 1) o i / 8 == t) (aN a) + (if (va_up (aO a) (aN a + 1) o (aN a + 1) / 8 == t) = true then 1 else 0) = _
  rw [va_up_self, cnt_congr (q := fun i => aO a i / 8 == t) (fun j h1 h2 => by rw [va_up_ne _ _ (by omega)])]
  show cK a t + _ = _
  by_cases e : o / 8 = t
  · rw [if_pos e, if_pos (by rw [e]; exact beq_self_eq_true t)]
  · rw [if_neg e, if_neg (fun c => e (eq_of_beq c))]
theorem cV_add (a : AS) (o : Nat) (k : Int64) (kd : Nat) (nu : Int64) (t : Nat) : cV (addA a o k kd nu) t = cV a t + (if o / 8 = t ∧ kd ≠ 0 then 1 else 0) := by
  show cnt (fun i => va_up (aO a) (aN a + 1) o i / 8 == t && va_up (aD a) (aN a + 1) kd i != 0) (aN a) + (if (va_up (aO a) (aN a + 1) o (aN a + 1) / 8 == t && va_up (aD a) (aN a + 1) kd (aN a + 1) != 0) = true then 1 else 0) = _
  rw [va_up_self, va_up_self, cnt_congr (q := fun i => aO a i / 8 == t && aD a i != 0) (fun j h1 h2 => by rw [va_up_ne _ _ (by omega), va_up_ne _ _ (by omega)])]
  show cV a t + _ = _
  congr 1
  by_cases e : o / 8 = t <;> by_cases f : kd = 0 <;> simp [e, f]
theorem cV_set {a : AS} {i : Nat} (hi : 1 ≤ i) (hn : i ≤ aN a) (kd : Nat) (nu : Int64) (t : Nat) : cV (setA a i kd nu) t + (if aO a i / 8 = t ∧ aD a i ≠ 0 then 1 else 0) = cV a t + (if aO a i / 8 = t ∧ kd ≠ 0 then 1 else 0) := by
  have hq : ∀ j, j ≠ i → (aO a j / 8 == t && va_up (aD a) i kd j != 0) = (aO a j / 8 == t && aD a j != 0) := fun j hj => by rw [va_up_ne _ _ hj]
  have hc : ((aO a i / 8 == t && va_up (aD a) i kd i != 0) = (aO a i / 8 == t && aD a i != 0)) → cnt (fun j => aO a j / 8 == t && va_up (aD a) i kd j != 0) (aN a) = cnt (fun j => aO a j / 8 == t && aD a j != 0) (aN a) := fun h0 => cnt_congr (fun j _ _ => by
    by_cases c : j = i
    · rw [c]; exact h0
    · exact hq j c)
  show cnt (fun j => aO a j / 8 == t && va_up (aD a) i kd j != 0) (aN a) + _ = cnt (fun j => aO a j / 8 == t && aD a j != 0) (aN a) + _
  by_cases e : aO a i / 8 = t
  · by_cases f : aD a i = 0
    · by_cases g : kd = 0
      · rw [hc (by rw [va_up_self, f, g])]
        simp [f, g]
      · rw [cnt_one (p := fun j => aO a j / 8 == t && aD a j != 0) hi hn (fun j _ _ c => hq j c) (by simp [f]) (by show (aO a i / 8 == t && va_up (aD a) i kd i != 0) = true; rw [va_up_self]; simp [e, g])]
        simp [e, f, g]
    · by_cases g : kd = 0
      · rw [cnt_one (q := fun j => aO a j / 8 == t && aD a j != 0) (p := fun j => aO a j / 8 == t && va_up (aD a) i kd j != 0) hi hn (fun j _ _ c => (hq j c).symm) (by show (aO a i / 8 == t && va_up (aD a) i kd i != 0) = false; rw [va_up_self]; simp [g]) (by simp [e, f])]
        simp [e, f, g]
      · rw [hc (by rw [va_up_self, show (kd != 0) = true from bne_iff_ne.mpr g, show (aD a i != 0) = true from bne_iff_ne.mpr f])]
        simp [f, g]
  · rw [hc (by rw [show (aO a i / 8 == t) = false from beq_eq_false_iff_ne.mpr e, Bool.false_and, Bool.false_and])]
    simp [e]
theorem isB.other {nT : Nat} {a : AS} {o t b : Nat} {k : Int64} {kd : Nat} {nu : Int64} (h : AI nT a) (hb : isB a t b) (ho : o ≠ t * 8 + 3) : isB (giveA a o k kd nu) t b := by
  refine ⟨fun j h1 h2 => ?_, ?_⟩
  · rw [wK_give h, if_neg (fun e => ho e.1)]; exact hb.1 j h1 h2
  · rw [wK_give h, if_neg (fun e => ho e.1)]; exact hb.2
theorem isB.stay {nT : Nat} {a : AS} {t b : Nat} {k : Int64} {kd : Nat} {nu : Int64} (h : AI nT a) (hb : isB a t b) (hk : kd ≠ 0) (hne : k ≠ lN (b + 1)) : isB (giveA a (t * 8 + 3) k kd nu) t b := by
  refine ⟨fun j h1 h2 => ?_, ?_⟩
  · rw [wK_give h]; split
    · exact hk
    · exact hb.1 j h1 h2
  · rw [wK_give h, if_neg (fun e => hne e.2)]; exact hb.2
theorem isB.nil {nT : Nat} {a : AS} {t b : Nat} {k : Int64} {nu : Int64} (h : AI nT a) (hb : isB a t b) (hne : ∀ j, 1 ≤ j → j ≤ b → k ≠ lN j) : isB (giveA a (t * 8 + 3) k 0 nu) t b := by
  refine ⟨fun j h1 h2 => ?_, ?_⟩
  · rw [wK_give h, if_neg (fun e => hne j h1 h2 e.2)]; exact hb.1 j h1 h2
  · rw [wK_give h]; split
    · rfl
    · exact hb.2
theorem isB.cut {nT : Nat} {a : AS} {t b j : Nat} {nu : Int64} (h : AI nT a) (hb : isB a t b) (h1 : 1 ≤ j) (h2 : j ≤ b) : isB (giveA a (t * 8 + 3) (lN j) 0 nu) t (j - 1) := by
  have hn := hb.le h
  have h40 := h.1
  refine ⟨fun i i1 i2 => ?_, ?_⟩
  · rw [wK_give h, if_neg (fun e => by have := lN_ne (by omega) (by omega) e.2; omega)]; exact hb.1 i i1 (by omega)
  · rw [wK_give h, show j - 1 + 1 = j by omega, if_pos ⟨rfl, rfl⟩]
theorem isB.full {nT : Nat} {a : AS} {t : Nat} (h : AI nT a) (hb : ∀ k, 1 ≤ k → k ≤ 40000 → wK a t k ≠ 0) : isB a t 40000 := by
  refine ⟨hb, ?_⟩
  by_cases e : wK a t 40001 = 0
  · exact e
  · have h40 := h.1
    have nz : ∀ j, j < 40001 → aF a (t * 8 + 3) (lN (j + 1)) ≠ 0 := fun j hj e2 => by
      have : wK a t (j + 1) ≠ 0 := by
        by_cases q : j = 40000
        · rw [q]; exact e
        · exact hb (j + 1) (by omega) (by omega)
      unfold wK at this
      rw [e2, h.2.2.2.1] at this
      exact this rfl
    have := hz_pigeon (aN a) 40001 (fun j => aF a (t * 8 + 3) (lN (j + 1))) (fun j hj => ⟨Nat.pos_of_ne_zero (nz j hj), aF_le _ _ _⟩) (fun i j hi hj e3 => by
      have e3 : aF a (t * 8 + 3) (lN (i + 1)) = aF a (t * 8 + 3) (lN (j + 1)) := e3
      have a1 := (aF_hit (nz i hi)).2
      have a2 := (aF_hit (nz j hj)).2
      rw [e3, a2] at a1
      have := lN_ne (by omega) (by omega) a1
      omega)
    omega
