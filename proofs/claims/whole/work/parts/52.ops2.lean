def emA (a : AS) : AS := (0, aO a, aK a, fun _ => 0, fun _ => 0)
theorem AI.em {nT : Nat} {a : AS} (h : AI nT a) (nT' : Nat) : AI nT' (emA a) := ⟨Nat.zero_le _, fun i h1 (h2 : i ≤ 0) => by omega, fun _ => Nat.zero_le _, rfl, rfl, fun _ _ _ => rfl, fun i j h1 (h2 : i ≤ 0) => by omega, h.2.2.2.2.2.2.2⟩
def clrA (a : AS) (t : Nat) (frm : Int64) (st : Nat) : Nat → AS
  | 0 => a
  | j + 1 => giveA (clrA a t frm st j) (t * 8 + 3) (rK frm st j) 0 0
def wereA (a : AS) (t : Nat) (frm : Int64) (st : Nat) : Nat → Nat
  | 0 => 0
  | j + 1 => wereA a t frm st j + (if vD a (t * 8 + 3) (rK frm st j) = 0 then 0 else 1)
theorem comeA_k0 (a : AS) (o : Nat) (k : Int64) : comeA a o k 0 = 0 := by unfold comeA; rw [if_pos rfl]; split <;> rfl
theorem clrA_N {a : AS} {t : Nat} {frm : Int64} {st : Nat} : ∀ j, aN (clrA a t frm st j) = aN a
  | 0 => rfl
  | j + 1 => by
    show aN (giveA (clrA a t frm st j) (t * 8 + 3) (rK frm st j) 0 0) = _
    rw [giveA_N, comeA_k0, clrA_N j]; rfl
theorem clrA_AI {nT : Nat} {a : AS} {t : Nat} {frm : Int64} {st : Nat} (h : AI nT a) (hn : nT ≤ 30000) (h1 : 1 ≤ t) (h2 : t ≤ nT) : ∀ j, AI nT (clrA a t frm st j)
  | 0 => h
  | j + 1 => AI.give (clrA_AI h hn h1 h2 j) hn h1 h2 (by omega) (by omega) (by omega) (by rw [comeA_k0, clrA_N]; exact h.1)
theorem clrA_D {nT : Nat} {a : AS} {t : Nat} {frm : Int64} {st : Nat} (h : AI nT a) (hn : nT ≤ 30000) (t1 : 1 ≤ t) (t2 : t ≤ nT) (h1 : 1 ≤ st) (h2 : st ≤ 1000) {m : Nat} (hm : m ≤ 20000) : ∀ j, j ≤ m → vD (clrA a t frm st j) (t * 8 + 3) (rK frm st m) = vD a (t * 8 + 3) (rK frm st m)
  | 0, _ => rfl
  | j + 1, hj => by
    show vD (giveA (clrA a t frm st j) (t * 8 + 3) (rK frm st j) 0 0) _ _ = _
    rw [vD_give (clrA_AI h hn t1 t2 j), if_neg (fun e => by have := rK_inj h1 h2 (by omega) hm e.2; omega)]
    exact clrA_D h hn t1 t2 h1 h2 hm j (by omega)
theorem cV_give0 {nT : Nat} {a : AS} (h : AI nT a) (t : Nat) (k : Int64) : cV (giveA a (t * 8 + 3) k 0 0) t + (if vD a (t * 8 + 3) k = 0 then 0 else 1) = cV a t := by
  by_cases q : aF a (t * 8 + 3) k = 0
  · rw [giveA_n q]
    unfold vD
    rw [q, h.2.2.2.1, if_pos rfl]; rfl
  · rw [giveA_0 q]
    generalize (if (0 : Nat) = 0 then (0 : Int64) else 0) = v
    have e := cV_set (a := a) (i := aF a (t * 8 + 3) k) (by omega) (aF_le _ _ _) 0 v t
    have o := (aF_hit q).1
    rw [o, if_neg (fun c : (t * 8 + 3) / 8 = t ∧ (0 : Nat) ≠ 0 => c.2 rfl)] at e
    unfold vD
    by_cases z : aD a (aF a (t * 8 + 3) k) = 0
    · rw [if_neg (fun c => c.2 z)] at e; rw [if_pos z]; exact e
    · rw [if_pos ⟨by omega, z⟩] at e; rw [if_neg z]; exact e
theorem clrA_V {nT : Nat} {a : AS} {t : Nat} {frm : Int64} {st : Nat} (h : AI nT a) (hn : nT ≤ 30000) (t1 : 1 ≤ t) (t2 : t ≤ nT) (h1 : 1 ≤ st) (h2 : st ≤ 1000) : ∀ j, j ≤ 20000 → cV (clrA a t frm st j) t + wereA a t frm st j = cV a t
  | 0, _ => rfl
  | j + 1, hj => by
    have e := cV_give0 (clrA_AI (frm := frm) (st := st) h hn t1 t2 j) t (rK frm st j)
    rw [clrA_D h hn t1 t2 h1 h2 (m := j) (by omega) j (Nat.le_refl j)] at e
    have i := clrA_V (frm := frm) h hn t1 t2 h1 h2 j (by omega)
    show cV (giveA (clrA a t frm st j) (t * 8 + 3) (rK frm st j) 0 0) t + (wereA a t frm st j + _) = _
    omega
noncomputable def fClear (nT : Nat) (a : AS) (x : Int32) (frm : Int64) (n st : Int32) : Int32 × AS := ifc (okRun nT x frm n st) (nI (wereA a (tN x) frm (tN st) (tN n)), clrA a (tN x) frm (tN st) (tN n)) (-1, a)
theorem runA_AI {nT : Nat} {a : AS} {t : Nat} {frm : Int64} {st : Nat} (h : AI nT a) (hn : nT ≤ 30000) (t1 : 1 ≤ t) (t2 : t ≤ nT) (h1 : 1 ≤ st) (h2 : st ≤ 1000) : ∀ j, j ≤ 20000 → aN a + missA a t frm st j ≤ 40000 → AI nT (runA a t frm st j)
  | 0, _, _ => h
  | j + 1, hj, hr => by
    have m1 := missA_mono a t frm st (j := j) (n := j + 1) (by omega)
    refine AI.give (runA_AI h hn t1 t2 h1 h2 j (by omega) (by omega)) hn t1 t2 (by omega) (by omega) (by omega) ?_
    rw [← giveA_N (nu := lN (j + 1))]
    have := runA_N (a := a) (t := t) (frm := frm) h1 h2 (j + 1) hj
    rw [show giveA (runA a t frm st j) (t * 8 + 3) (rK frm st j) 3 (lN (j + 1)) = runA a t frm st (j + 1) from rfl, this]; exact hr
