/-! fields of whole numbers that are moved -/
def mv (a : AS) (t p q : Nat) : AS := giveA a (t * 8 + 3) (lN q) (vD a (t * 8 + 3) (lN p)) (vU a (t * 8 + 3) (lN p))
def upA (a : AS) (t n : Nat) : Nat → AS
  | 0 => a
  | j + 1 => mv (upA a t n j) t (n - j) (n - j + 1)
def dwA (a : AS) (t i : Nat) : Nat → AS
  | 0 => a
  | j + 1 => mv (dwA a t i j) t (i + j + 1) (i + j)
theorem upA_first (a : AS) (t n : Nat) : ∀ j, upA a t n (j + 1) = upA (mv a t n (n + 1)) t (n - 1) j
  | 0 => rfl
  | j + 1 => by
    show mv (upA a t n (j + 1)) t (n - (j + 1)) (n - (j + 1) + 1) = mv (upA (mv a t n (n + 1)) t (n - 1) j) t (n - 1 - j) (n - 1 - j + 1)
    rw [upA_first a t n j, show n - (j + 1) = n - 1 - j by omega]
section Mv
variable {nT t p q m : Nat} {a : AS}
theorem wK_F (h : AI nT a) (hn : wK a t m ≠ 0) : aF a (t * 8 + 3) (lN m) ≠ 0 := fun e => by
  unfold wK at hn
  rw [e, h.2.2.2.1] at hn
  exact hn rfl
theorem mv_set (hp : wK a t p ≠ 0) (hf : aF a (t * 8 + 3) (lN q) ≠ 0) : mv a t p q = setA a (aF a (t * 8 + 3) (lN q)) (vD a (t * 8 + 3) (lN p)) (vU a (t * 8 + 3) (lN p)) := by
  unfold mv
  rw [giveA_0 hf, if_neg (show vD a (t * 8 + 3) (lN p) ≠ 0 from hp)]
theorem mv_nz (h : AI nT a) (hp : wK a t p ≠ 0) (hm : wK a t m ≠ 0) : wK (mv a t p q) t m ≠ 0 := by
  unfold mv
  rw [wK_give h]
  split
  · exact hp
  · exact hm
theorem mv_N (hf : aF a (t * 8 + 3) (lN q) ≠ 0) : aN (mv a t p q) = aN a := by
  unfold mv
  rw [giveA_N, comeA_0 hf, Nat.add_zero]
theorem mv_F (hp : wK a t p ≠ 0) (hf : aF a (t * 8 + 3) (lN q) ≠ 0) (o : Nat) (k : Int64) : aF (mv a t p q) o k = aF a o k := by
  rw [mv_set hp hf]; rfl
theorem CI.mv {g gt : Nat} {ow : Nat → Nat} {ky : Nat → Int64} {kd : Nat → Nat} {nu : Nat → Int64} {fo sn fi la kc vc bo : Nat → Nat} (h : CI nT a g gt ow ky kd nu fo sn fi la kc vc bo) (hp : wK a t p ≠ 0) (hq : wK a t q ≠ 0) :
    CI nT (mv a t p q) g gt ow ky (va_up kd (aF a (t * 8 + 3) (lN q)) (kd (aF a (t * 8 + 3) (lN p)))) (vp_updL nu (aF a (t * 8 + 3) (lN q)) (nu (aF a (t * 8 + 3) (lN p)))) fo sn fi la kc vc bo := by
  have hAI := h.1.1
  have hf := wK_F hAI hq
  have h1 : 1 ≤ aF a (t * 8 + 3) (lN q) := Nat.pos_of_ne_zero hf
  have hz : vD a (t * 8 + 3) (lN p) = 0 ↔ aD a (aF a (t * 8 + 3) (lN q)) = 0 := ⟨fun e => absurd e hp, fun e => absurd e hq⟩
  rw [mv_set hp hf, h.1.D, h.1.V]
  exact ⟨h.1.set h1 (vD_le hAI _ _) (fun e => absurd e hp), h.2.1.set (CT.v0 h.2.1 h1 (aF_le _ _ _) hz) (fun t h1 h2 => (h.2.1.b h1 h2).same hz), h.2.2⟩
end Mv
noncomputable def fInsertG (a : AS) (t i kd : Nat) (nu : Int64) : Int32 × AS := if (i ≤ bd a t ∨ kd ≠ 0) ∧ aN a = 40000 ∧ aF a (t * 8 + 3) (lN (bd a t + 1)) = 0 then (-3, a) else (nI (bd (giveA (upA a t (bd a t) (bd a t + 1 - i)) (t * 8 + 3) (lN i) kd nu) t), giveA (upA a t (bd a t) (bd a t + 1 - i)) (t * 8 + 3) (lN i) kd nu)
noncomputable def fInsert (nT : Nat) (a : AS) (x i kd : Int32) (nu : Int64) : Int32 × AS := ifc ((okT nT x ∧ okT (bd a (tN x) + 1) i) ∧ okV kd) (fInsertG a (tN x) (tN i) (tN kd) nu) (-1, a)
noncomputable def rmA (a : AS) (t i : Nat) : AS := if i ≤ bd a t then giveA (dwA a t i (bd a t - i)) (t * 8 + 3) (lN (bd a t)) 0 0 else a
noncomputable def fRemove (nT : Nat) (a : AS) (x i : Int32) : Int32 × AS := ifc (okT nT x ∧ okT (bd a (tN x) + 1) i) (nI (bd (rmA a (tN x) (tN i)) (tN x)), rmA a (tN x) (tN i)) (-1, a)
/-! turned round -/
def swA (a : AS) (i j : Nat) : AS := setA (setA a i (aD a j) (aU a j)) j (aD a i) (aU a i)
def revA (a : AS) (t n : Nat) : Nat → AS
  | 0 => a
  | j + 1 => swA (revA a t n j) (aF a (t * 8 + 3) (lN (j + 1))) (aF a (t * 8 + 3) (lN (n - j)))
noncomputable def fReverse (nT : Nat) (a : AS) (x : Int32) : Int32 × AS := ifc (okT nT x) (nI (bd a (tN x)), revA a (tN x) (bd a (tN x)) (bd a (tN x) / 2)) (-1, a)
theorem swA_F (a : AS) (i j o : Nat) (k : Int64) : aF (swA a i j) o k = aF a o k := rfl
theorem revA_F (a : AS) (t n : Nat) (o : Nat) (k : Int64) : ∀ j, aF (revA a t n j) o k = aF a o k
  | 0 => rfl
  | j + 1 => revA_F a t n o k j
theorem revA_N (a : AS) (t n : Nat) : ∀ j, aN (revA a t n j) = aN a
  | 0 => rfl
  | j + 1 => revA_N a t n j
theorem revA_O (a : AS) (t n : Nat) : ∀ j, aO (revA a t n j) = aO a
  | 0 => rfl
  | j + 1 => revA_O a t n j
theorem revA_K (a : AS) (t n : Nat) : ∀ j, aK (revA a t n j) = aK a
  | 0 => rfl
  | j + 1 => revA_K a t n j
theorem CI.sw {nT i j g gt : Nat} {a : AS} {ow : Nat → Nat} {ky : Nat → Int64} {kd : Nat → Nat} {nu : Nat → Int64} {fo sn fi la kc vc bo : Nat → Nat} (h : CI nT a g gt ow ky kd nu fo sn fi la kc vc bo) (hi : 1 ≤ i) (hi2 : i ≤ aN a) (hj : 1 ≤ j) (hj2 : j ≤ aN a) (di : aD a i ≠ 0) (dj : aD a j ≠ 0) :
    CI nT (swA a i j) g gt ow ky (va_up (va_up kd i (kd j)) j (kd i)) (vp_updL (vp_updL nu i (nu j)) j (nu i)) fo sn fi la kc vc bo := by
  have hAg := h.1.2.2.2.2.1
  have h7 := h.1.1.2.2.1
  rw [(hAg i hi2).2.2.1, (hAg j hj2).2.2.1, (hAg i hi2).2.2.2, (hAg j hj2).2.2.2]
  have c1 : CI nT (setA a i (aD a j) (aU a j)) g gt ow ky (va_up kd i (aD a j)) (vp_updL nu i (aU a j)) fo sn fi la kc vc bo := by
    have hz : aD a j = 0 ↔ aD a i = 0 := ⟨fun e => absurd e dj, fun e => absurd e di⟩
    exact ⟨h.1.set hi (h7 j) (fun e => absurd e dj), h.2.1.set (CT.v0 h.2.1 hi hi2 hz) (fun t h1 h2 => (h.2.1.b h1 h2).same hz), h.2.2⟩
  have dj' : aD (setA a i (aD a j) (aU a j)) j ≠ 0 := by
    show va_up (aD a) i (aD a j) j ≠ 0
    unfold va_up; split
    · exact dj
    · exact dj
  have hz : aD a i = 0 ↔ aD (setA a i (aD a j) (aU a j)) j = 0 := ⟨fun e => absurd e di, fun e => absurd e dj'⟩
  exact ⟨c1.1.set hj (h7 i) (fun e => absurd e di), c1.2.1.set (CT.v0 c1.2.1 hj hj2 hz) (fun t h1 h2 => (c1.2.1.b h1 h2).same hz), c1.2.2⟩
theorem swA_nz {a : AS} {i j : Nat} (di : aD a i ≠ 0) (dj : aD a j ≠ 0) {m : Nat} (h : aD a m ≠ 0) : aD (swA a i j) m ≠ 0 := by
  show va_up (va_up (aD a) i (aD a j)) j (aD a i) m ≠ 0
  unfold va_up
  split
  · exact di
  · split
    · exact dj
    · exact h
theorem AI.mv {nT t p q : Nat} {a : AS} (h : AI nT a) (hn : nT ≤ 30000) (h1 : 1 ≤ t) (h2 : t ≤ nT) (hq : wK a t q ≠ 0) : AI nT (mv a t p q) :=
  AI.give h hn h1 h2 (by omega) (by omega) (vD_le h _ _) (by rw [comeA_0 (wK_F h hq)]; exact h.1)
theorem upA_ok {nT t i b : Nat} {a : AS} (h : AI nT a) (hn : nT ≤ 30000) (h1 : 1 ≤ t) (h2 : t ≤ nT) (hi : 1 ≤ i) (hz : ∀ m, i ≤ m → m ≤ b → wK a t m ≠ 0) : ∀ j, j ≤ b - i → AI nT (upA a t (b - 1) j) ∧ aN (upA a t (b - 1) j) = aN a ∧ ∀ m, i ≤ m → m ≤ b → wK (upA a t (b - 1) j) t m ≠ 0
  | 0, _ => ⟨h, rfl, hz⟩
  | j + 1, hj => by
    obtain ⟨q1, q2, q3⟩ := upA_ok h hn h1 h2 hi hz j (by omega)
    have hp := q3 (b - 1 - j) (by omega) (by omega)
    have hq := q3 (b - 1 - j + 1) (by omega) (by omega)
    refine ⟨q1.mv hn h1 h2 hq, ?_, fun m m1 m2 => mv_nz q1 hp (q3 m m1 m2)⟩
    show aN (mv (upA a t (b - 1) j) t (b - 1 - j) (b - 1 - j + 1)) = _
    rw [mv_N (wK_F q1 hq), q2]
