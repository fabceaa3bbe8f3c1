/-! what the calls answer and do, by the document, over what all tables hold -/
noncomputable def ifc {α : Type} (p : Prop) (x y : α) : α := @ite α p (Classical.propDecidable p) x y
theorem ifc_pos {α : Type} {p : Prop} {x y : α} (h : p) : ifc p x y = x := by unfold ifc; exact if_pos h
theorem ifc_neg {α : Type} {p : Prop} {x y : α} (h : ¬ p) : ifc p x y = y := by unfold ifc; exact if_neg h
noncomputable def pick (p : Nat → Prop) : Nat := @dite Nat (∃ j, p j) (Classical.propDecidable _) (fun h => h.choose) (fun _ => 0)
theorem pick_eq {p : Nat → Prop} {j : Nat} (h : p j) (hu : ∀ i, p i → i = j) : pick p = j := by
  have e : ∃ j, p j := ⟨j, h⟩
  unfold pick
  rw [dif_pos e]
  exact hu _ e.choose_spec
def tN (x : Int32) : Nat := x.toNatClampNeg
theorem tN_nI {t : Nat} (h : t < 2 ^ 31) : tN (nI t) = t := nI_clamp h
noncomputable def bd (a : AS) (t : Nat) : Nat := pick (isB a t)
theorem bd_eq {a : AS} {t b : Nat} (h : isB a t b) : bd a t = b := pick_eq h (fun i hi => hi.uniq h)
def isNV (a : AS) (t i j : Nat) : Prop := (j = 0 ∧ ∀ m, i < m → m ≤ aN a → ¬ (aO a m / 8 = t ∧ aD a m ≠ 0)) ∨ (i < j ∧ j ≤ aN a ∧ aO a j / 8 = t ∧ aD a j ≠ 0 ∧ ∀ m, i < m → m < j → ¬ (aO a m / 8 = t ∧ aD a m ≠ 0))
theorem isNV.uniq {a : AS} {t i j j' : Nat} (h : isNV a t i j) (h' : isNV a t i j') : j = j' := by
  rcases h with ⟨h1, h2⟩ | ⟨h1, h2, h3, h4, h5⟩
  · rcases h' with ⟨k1, k2⟩ | ⟨k1, k2, k3, k4, k5⟩
    · omega
    · exact absurd ⟨k3, k4⟩ (h2 j' k1 k2)
  · rcases h' with ⟨k1, k2⟩ | ⟨k1, k2, k3, k4, k5⟩
    · exact absurd ⟨h3, h4⟩ (k2 j h1 h2)
    · rcases Nat.lt_trichotomy j j' with q | q | q
      · exact absurd ⟨h3, h4⟩ (k5 j h1 q)
      · exact q
      · exact absurd ⟨k3, k4⟩ (h5 j' k1 q)
noncomputable def nv (a : AS) (t i : Nat) : Nat := pick (isNV a t i)
theorem nv_eq {a : AS} {t i j : Nat} (h : isNV a t i j) : nv a t i = j := pick_eq h (fun _ hi => hi.uniq h)
def fMake (nT : Nat) : Int32 × Nat := if nT = 30000 then (-3, nT) else (nI (nT + 1), nT + 1)
def fPutG (a : AS) (o : Nat) (k : Int64) (kd : Nat) (nu : Int64) : Int32 × AS := if kd ≠ 0 ∧ aN a = 40000 ∧ aF a o k = 0 then (-3, a) else (nI (comeA a o k kd), giveA a o k kd nu)
noncomputable def fPut (nT : Nat) (a : AS) (x kk : Int32) (k : Int64) (kd : Int32) (nu : Int64) : Int32 × AS := ifc (okT nT x ∧ okT 7 kk ∧ okV kd) (fPutG a (tN x * 8 + tN kk) k (tN kd) nu) (-1, a)
noncomputable def fKindAt (nT : Nat) (a : AS) (x kk : Int32) (k : Int64) : Int32 := ifc (okT nT x ∧ okT 7 kk) (nI (vD a (tN x * 8 + tN kk) k)) (-1)
noncomputable def fNumberAt (nT : Nat) (a : AS) (x kk : Int32) (k : Int64) : Int64 := ifc (okT nT x ∧ okT 7 kk) (vU a (tN x * 8 + tN kk) k) 0
noncomputable def fBorder (nT : Nat) (a : AS) (x : Int32) : Int32 := ifc (okT nT x) (nI (bd a (tN x))) (-1)
noncomputable def fKeys (nT : Nat) (a : AS) (x : Int32) : Int32 := ifc (okT nT x) (nI (cK a (tN x))) (-1)
noncomputable def fFields (nT : Nat) (a : AS) (x : Int32) : Int32 := ifc (okT nT x) (nI (cV a (tN x))) (-1)
noncomputable def fNextJ (a : AS) (j : Nat) : Int32 × Nat × Int64 := if j = 0 then (nI 0, 0, 0) else (nI 1, aO a j % 8, aK a j)
noncomputable def fNextG (a : AS) (cur : Nat × Int64) (t kk : Nat) (k : Int64) : Int32 × Nat × Int64 := if kk ≠ 0 ∧ aF a (t * 8 + kk) k = 0 then (-2, cur) else fNextJ a (nv a t (if kk = 0 then 0 else aF a (t * 8 + kk) k))
noncomputable def fNext (nT : Nat) (a : AS) (cur : Nat × Int64) (x kk : Int32) (k : Int64) : Int32 × Nat × Int64 := ifc (okT nT x ∧ okV kk) (fNextG a cur (tN x) (tN kk) k) (-1, cur)
/-! rows of whole numbers -/
def okRun (nT : Nat) (x : Int32) (frm : Int64) (n st : Int32) : Prop := okT nT x ∧ (∃ j, j ≤ 20000 ∧ n = nI j) ∧ (∃ j, 1 ≤ j ∧ j ≤ 1000 ∧ st = nI j) ∧ ¬ frm < -1000000 ∧ ¬ lN 1000000 < frm
theorem okN_of {M : Nat} {x : Int32} (hM : M < 2 ^ 31) (h1 : ¬ x < 0) (h2 : ¬ nI M < x) : ∃ j, j ≤ M ∧ x = nI j := by
  rw [Int32.lt_iff_toInt_lt, nI_toInt hM] at h2
  rw [Int32.lt_iff_toInt_lt] at h1
  have e0 : (0 : Int32).toInt = 0 := rfl
  refine ⟨x.toInt.toNat, by omega, ?_⟩
  apply Int32.toInt_inj.mp
  rw [nI_toInt (by omega)]; omega
theorem okN_lt {M : Nat} {x : Int32} (hM : M < 2 ^ 31) (h : x < 0) : ¬ ∃ j, j ≤ M ∧ x = nI j := by
  rintro ⟨j, h1, rfl⟩
  exact nI_pos (by omega) h
theorem okN_gt {M : Nat} {x : Int32} (hM : M < 2 ^ 31) (h : nI M < x) : ¬ ∃ j, j ≤ M ∧ x = nI j := by
  rintro ⟨j, h1, rfl⟩
  have := (nI_ltI (by omega) (by omega)).mp h
  omega
/-- the key of place j of a row -/
def rK (frm : Int64) (st j : Nat) : Int64 := frm + lN (st * j)
theorem rK_0 (frm : Int64) (st : Nat) : rK frm st 0 = frm := by
  unfold rK
  rw [Nat.mul_zero]
  show frm + 0 = frm
  exact Int64.add_zero frm
theorem rK_1 (frm : Int64) (st j : Nat) : rK frm st j + lN st = rK frm st (j + 1) := by
  unfold rK
  rw [Int64.add_assoc, lN_add, Nat.mul_succ]
def missA (a : AS) (t : Nat) (frm : Int64) (st : Nat) : Nat → Nat
  | 0 => 0
  | j + 1 => missA a t frm st j + (if aF a (t * 8 + 3) (rK frm st j) = 0 then 1 else 0)
theorem missA_le (a : AS) (t : Nat) (frm : Int64) (st : Nat) : ∀ n, missA a t frm st n ≤ n
  | 0 => Nat.le_refl 0
  | n + 1 => by
    have := missA_le a t frm st n
    unfold missA
    split <;> omega
def runA (a : AS) (t : Nat) (frm : Int64) (st : Nat) : Nat → AS
  | 0 => a
  | j + 1 => giveA (runA a t frm st j) (t * 8 + 3) (rK frm st j) 3 (lN (j + 1))
theorem rK_inj {frm : Int64} {st i j : Nat} (h1 : 1 ≤ st) (h2 : st ≤ 1000) (hi : i ≤ 20000) (hj : j ≤ 20000) (h : rK frm st i = rK frm st j) : i = j := by
  unfold rK at h
  have e : lN (st * i) = lN (st * j) := by
    have := congrArg (fun z => -frm + z) h
    simpa [← Int64.add_assoc, Int64.add_left_neg] using this
  have b1 : st * i ≤ 1000 * 20000 := Nat.mul_le_mul h2 hi
  have b2 : st * j ≤ 1000 * 20000 := Nat.mul_le_mul h2 hj
  exact Nat.eq_of_mul_eq_mul_left h1 (lN_ne (by omega) (by omega) e)
/-- a key is there behind a give if it was, or is the one -/
theorem aF_give0 {a : AS} {o : Nat} {k : Int64} {kd : Nat} {nu : Int64} {o' : Nat} {k' : Int64} (hne : ¬ (o = o' ∧ k = k')) : aF (giveA a o k kd nu) o' k' = aF a o' k' := by
  unfold giveA
  split
  · split
    · rfl
    · rw [aF_add, if_neg hne]
  · rfl
theorem runA_F {a : AS} {t : Nat} {frm : Int64} {st : Nat} (h1 : 1 ≤ st) (h2 : st ≤ 1000) {m : Nat} (hm : m ≤ 20000) : ∀ j, j ≤ m → aF (runA a t frm st j) (t * 8 + 3) (rK frm st m) = aF a (t * 8 + 3) (rK frm st m)
  | 0, _ => rfl
  | j + 1, h => by
    show aF (giveA (runA a t frm st j) (t * 8 + 3) (rK frm st j) 3 (lN (j + 1))) _ _ = _
    rw [aF_give0 (fun e => by have := rK_inj h1 h2 (by omega) hm e.2; omega)]
    exact runA_F h1 h2 hm j (by omega)
theorem runA_N {a : AS} {t : Nat} {frm : Int64} {st : Nat} (h1 : 1 ≤ st) (h2 : st ≤ 1000) : ∀ j, j ≤ 20000 → aN (runA a t frm st j) = aN a + missA a t frm st j
  | 0, _ => rfl
  | j + 1, h => by
    show aN (giveA (runA a t frm st j) (t * 8 + 3) (rK frm st j) 3 (lN (j + 1))) = aN a + (missA a t frm st j + (if aF a (t * 8 + 3) (rK frm st j) = 0 then 1 else 0))
    rw [giveA_N, runA_N h1 h2 j (by omega)]
    unfold comeA
    rw [runA_F h1 h2 (by omega) j (Nat.le_refl j)]
    by_cases q : aF a (t * 8 + 3) (rK frm st j) = 0
    · rw [if_pos q, if_neg (by omega), if_pos q]; omega
    · rw [if_neg q, if_neg q]; omega
theorem missA_mono (a : AS) (t : Nat) (frm : Int64) (st : Nat) {j : Nat} : ∀ {n : Nat}, j ≤ n → missA a t frm st j ≤ missA a t frm st n
  | 0, h => by rw [Nat.le_zero.mp h]; exact Nat.le_refl _
  | n + 1, h => by
    by_cases e : j = n + 1
    · rw [e]; exact Nat.le_refl _
    · have := missA_mono a t frm st (j := j) (n := n) (by omega)
      show _ ≤ missA a t frm st n + _
      omega
def fFillG (a : AS) (t : Nat) (frm : Int64) (n st : Nat) : Int32 × AS := if 40000 < aN a + missA a t frm st n then (-3, a) else (nI (missA a t frm st n), runA a t frm st n)
noncomputable def fFill (nT : Nat) (a : AS) (x : Int32) (frm : Int64) (n st : Int32) : Int32 × AS := ifc (okRun nT x frm n st) (fFillG a (tN x) frm (tN n) (tN st)) (-1, a)
/-! going along a chain: q the last place behind which we are, fld the next of the table's keys -/
section Chain
variable {a : AS} {t q0 q fld : Nat}
def noV (a : AS) (t q0 q : Nat) : Prop := ∀ m, q0 < m → m ≤ q → ¬ (aO a m / 8 = t ∧ aD a m ≠ 0)
theorem noV.refl : noV a t q0 q0 := fun m h1 h2 => by omega
theorem noV.next (h : noV a t q0 q) (hf : ch_N (aO a) t (aN a) q fld) (hn : fld ≠ 0) (h0 : aD a fld = 0) : noV a t q0 fld := fun m m1 m2 m3 => by
  rcases Nat.lt_trichotomy m fld with z | z | z
  · rcases Nat.lt_or_ge q m with y | y
    · rcases hf with ⟨w, _⟩ | ⟨_, _, _, w⟩
      · exact hn w
      · exact w m y z m3.1
    · exact h m m1 y m3
  · rw [z] at m3; exact m3.2 h0
  · omega
theorem noV.end0 (h : noV a t q0 q) (hf : ch_N (aO a) t (aN a) q fld) (hz : fld = 0) : nv a t q0 = 0 := by
  refine nv_eq (Or.inl ⟨rfl, fun m m1 m2 m3 => ?_⟩)
  rcases Nat.lt_or_ge q m with z | z
  · rcases hf with ⟨_, w⟩ | ⟨w, _⟩
    · exact w m z m2 m3.1
    · omega
  · exact h m m1 z m3
theorem noV.endj (h : noV a t q0 q) (hqq : q0 ≤ q) (hf : ch_N (aO a) t (aN a) q fld) (hn : fld ≠ 0) (h0 : aD a fld ≠ 0) : nv a t q0 = fld := by
  rcases hf with ⟨w, _⟩ | ⟨w1, w2, w3, w4⟩
  · exact absurd w hn
  · refine nv_eq (Or.inr ⟨by omega, w2, w3, h0, fun m m1 m2 m3 => ?_⟩)
    rcases Nat.lt_or_ge q m with z | z
    · exact w4 m z m2 m3.1
    · exact h m m1 z m3
theorem ch_N.facts (hf : ch_N (aO a) t (aN a) q fld) (hn : fld ≠ 0) : q < fld ∧ fld ≤ aN a ∧ aO a fld / 8 = t := by
  rcases hf with ⟨w, _⟩ | ⟨w1, w2, w3, _⟩
  · exact absurd w hn
  · exact ⟨w1, w2, w3⟩
theorem ch_N.le (hf : ch_N (aO a) t (aN a) q fld) : fld ≤ aN a := by
  rcases hf with ⟨w, _⟩ | ⟨_, w, _⟩ <;> omega
/-- how many of the table's keys are at places up to q -/
def cQ (a : AS) (t q : Nat) : Nat := cnt (fun y => aO a y / 8 == t) q
theorem cQ_next (hf : ch_N (aO a) t (aN a) q fld) (hn : fld ≠ 0) : cQ a t q + 1 ≤ cQ a t fld ∧ cQ a t fld ≤ cK a t := by
  obtain ⟨h1, h2, h3⟩ := hf.facts hn
  have k1 := cnt_lt (p := fun y => aO a y / 8 == t) (i := fld) (n := fld) (by omega) (Nat.le_refl _) (by show (aO a fld / 8 == t) = true; rw [h3]; exact beq_self_eq_true t)
  have k2 := cnt_mono (fun y => aO a y / 8 == t) (i := q) (n := fld - 1) (by omega)
  have k3 := cnt_mono (fun y => aO a y / 8 == t) h2
  unfold cQ cK; omega
theorem cQ_le (h : q ≤ aN a) : cQ a t q ≤ aN a := Nat.le_trans (cnt_mono _ h) (cnt_le _ _)
end Chain
theorem nv_le (a : AS) (t i : Nat) : nv a t i ≤ aN a := by
  unfold nv pick
  by_cases e : ∃ j, isNV a t i j
  · rw [dif_pos e]
    rcases e.choose_spec with ⟨z, _⟩ | ⟨_, z, _⟩
    · rw [z]; exact Nat.zero_le _
    · exact z
  · rw [dif_neg e]; exact Nat.zero_le _
