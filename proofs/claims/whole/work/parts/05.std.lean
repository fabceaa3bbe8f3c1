section Std
variable {p : Program} {l : Launch} {e : Env} {R : Room} {s : State} {m : MethodId} {args : Array Value} {below : List Frame} {meth : Method} {c : Code} {H H0 : Heap} {locs : List Loc} {cells slots : Nat} {Q : State → Prop} {cc : ByteArray} {pc : Nat} {ls : Array Slot} {rest : List Value} {D : va_G} {cl : List vw_C} {tys : List (ClassId × FieldType)} {ws : va_W} {A : Nat → Prop} {a : Nat}
theorem fz_eqi {x y : Int32} (h : x = y) (k : W p l e R s m args below meth c H locs cells slots Q (F0 m pc ls (.int y :: rest))) : W p l e R s m args below meth c H locs cells slots Q (F0 m pc ls (.int x :: rest)) := by rw [h]; exact k
theorem fz_eql {x y : Int64} (h : x = y) (k : W p l e R s m args below meth c H locs cells slots Q (F0 m pc ls (.long y :: rest))) : W p l e R s m args below meth c H locs cells slots Q (F0 m pc ls (.long x :: rest)) := by rw [h]; exact k
theorem fz_ty {U : State} {c1 c2 : ClassId} {tys2 : List (ClassId × FieldType)} {ty : FieldType} (hp : refKind ty = false) {i j : Nat} (h1 : va_K D cl tys U) (h2 : va_K D cl tys2 U) (e1 : tys[i]? = some (c1, ty)) (e2 : tys2[j]? = some (c2, ty)) : c2 = c1 := by
  have r1 := (h1.2 i _ e1).2
  have r2 := (h2.2 j _ e2).2
  cases ty with
  | object C => simp [refKind] at hp
  | _ =>
    have r1 : U.vm.findClass _ = some c1 := r1
    have r2 : U.vm.findClass _ = some c2 := r2
    exact Option.some.inj (r2.symm.trans r1)
theorem fz_iald (hx : p.tables.exec = Jvm.exec) (hb : c.code = cc) (hK : va_K D cl tys s) (hP : va_P D cl ws H) (q0 t0 : Nat) {cA : ClassId} {n : Nat} {f : Nat → Nat} (ha : ws[q0]? = some (a, .inl (cA, n, .inl (nf f)))) (ht : tys[t0]? = some (cA, .int)) {j : Nat} (hj : j < n) (hn : n < 2 ^ 31) (hdg : decode cc pc = .ok (.iaload, 1))
    (kk : W p l e R s m args below meth c H locs cells slots Q (F0 m (pc + 1) ls (.int (nI (f j)) :: rest))) : W p l e R s m args below meth c H locs cells slots Q (F0 m pc ls (.int (nI j) :: .ref a :: rest)) :=
  va_iald hx hb hK hP q0 t0 ha ht (vp_in_nI hj hn) hdg (by rw [nI_clamp (by omega)]; exact kk)
theorem fz_bald (hx : p.tables.exec = Jvm.exec) (hb : c.code = cc) (hK : va_K D cl tys s) (hP : va_P D cl ws H) (q0 t0 : Nat) {cA : ClassId} {n : Nat} {f : Nat → Nat} (ha : ws[q0]? = some (a, .inl (cA, n, .inl (nf f)))) (ht : tys[t0]? = some (cA, .byte)) {j : Nat} (hj : j < n) (hn : n < 2 ^ 31) (hdg : decode cc pc = .ok (.baload, 1))
    (kk : W p l e R s m args below meth c H locs cells slots Q (F0 m (pc + 1) ls (.int (nI (f j)) :: rest))) : W p l e R s m args below meth c H locs cells slots Q (F0 m pc ls (.int (nI j) :: .ref a :: rest)) :=
  va_bald hx hb hK hP q0 t0 ha ht (vp_in_nI hj hn) hdg (by rw [nI_clamp (by omega)]; exact kk)
theorem fz_lald (hx : p.tables.exec = Jvm.exec) (hb : c.code = cc) (hK : va_K D cl tys s) (hP : va_P D cl ws H) (q0 t0 : Nat) {cA : ClassId} {n : Nat} {f : Nat → Int64} (ha : ws[q0]? = some (a, .inl (cA, n, .inr (.inl f)))) (ht : tys[t0]? = some (cA, .long)) {j : Nat} (hj : j < n) (hn : n < 2 ^ 31) (hdg : decode cc pc = .ok (.laload, 1))
    (kk : W p l e R s m args below meth c H locs cells slots Q (F0 m (pc + 1) ls (.long (f j) :: rest))) : W p l e R s m args below meth c H locs cells slots Q (F0 m pc ls (.int (nI j) :: .ref a :: rest)) :=
  va_lald hx hb hK hP q0 t0 ha ht (vp_in_nI hj hn) hdg (by rw [nI_clamp (by omega)]; exact kk)
theorem fz_iast (hx : p.tables.exec = Jvm.exec) (hb : c.code = cc) (hK : va_K D cl tys s) (hP : va_P D cl ws H) (hD : va_D A ws) (hS : va_S A H0 H locs) (q0 t0 : Nat) {cA : ClassId} {n : Nat} {f : Nat → Nat} (ha : ws[q0]? = some (a, .inl (cA, n, .inl (nf f)))) (ht : tys[t0]? = some (cA, .int)) {j : Nat} {x : Nat} (hj : j < n) (hn : n < 2 ^ 31) (hdg : decode cc pc = .ok (.iastore, 1))
    (kk : ∀ (H1 : Heap) (locs1 : List Loc), va_P D cl (ws.set q0 (a, .inl (cA, n, .inl (nf (va_up f j x))))) H1 → va_D A (ws.set q0 (a, .inl (cA, n, .inl (nf (va_up f j x))))) → va_S A H0 H1 locs1 → W p l e R s m args below meth c H1 locs1 cells slots Q (F0 m (pc + 1) ls rest)) : W p l e R s m args below meth c H locs cells slots Q (F0 m pc ls (.int (nI x) :: .int (nI j) :: .ref a :: rest)) :=
  va_iast hx hb hK hP hD hS q0 t0 ha ht (vp_in_nI hj hn) hdg (fun H1 locs1 h1 h2 h3 => by rw [nI_clamp (by omega), fz_updN] at h1 h2; exact kk H1 locs1 h1 h2 h3)
theorem fz_bast (hx : p.tables.exec = Jvm.exec) (hb : c.code = cc) (hK : va_K D cl tys s) (hP : va_P D cl ws H) (hD : va_D A ws) (hS : va_S A H0 H locs) (q0 t0 : Nat) {cA : ClassId} {n : Nat} {f : Nat → Nat} (ha : ws[q0]? = some (a, .inl (cA, n, .inl (nf f)))) (ht : tys[t0]? = some (cA, .byte)) {j : Nat} {x : Nat} (hx8 : vp_nar .byte (nI x) = nI x) (hj : j < n) (hn : n < 2 ^ 31) (hdg : decode cc pc = .ok (.bastore, 1))
    (kk : ∀ (H1 : Heap) (locs1 : List Loc), va_P D cl (ws.set q0 (a, .inl (cA, n, .inl (nf (va_up f j x))))) H1 → va_D A (ws.set q0 (a, .inl (cA, n, .inl (nf (va_up f j x))))) → va_S A H0 H1 locs1 → W p l e R s m args below meth c H1 locs1 cells slots Q (F0 m (pc + 1) ls rest)) : W p l e R s m args below meth c H locs cells slots Q (F0 m pc ls (.int (nI x) :: .int (nI j) :: .ref a :: rest)) :=
  va_bast hx hb hK hP hD hS q0 t0 ha ht (vp_in_nI hj hn) hdg (fun H1 locs1 h1 h2 h3 => by rw [nI_clamp (by omega), hx8, fz_updN] at h1 h2; exact kk H1 locs1 h1 h2 h3)
theorem fz_last (hx : p.tables.exec = Jvm.exec) (hb : c.code = cc) (hK : va_K D cl tys s) (hP : va_P D cl ws H) (hD : va_D A ws) (hS : va_S A H0 H locs) (q0 t0 : Nat) {cA : ClassId} {n : Nat} {f : Nat → Int64} (ha : ws[q0]? = some (a, .inl (cA, n, .inr (.inl f)))) (ht : tys[t0]? = some (cA, .long)) {j : Nat} {x : Int64} (hj : j < n) (hn : n < 2 ^ 31) (hdg : decode cc pc = .ok (.lastore, 1))
    (kk : ∀ (H1 : Heap) (locs1 : List Loc), va_P D cl (ws.set q0 (a, .inl (cA, n, .inr (.inl (vp_updL f j x))))) H1 → va_D A (ws.set q0 (a, .inl (cA, n, .inr (.inl (vp_updL f j x))))) → va_S A H0 H1 locs1 → W p l e R s m args below meth c H1 locs1 cells slots Q (F0 m (pc + 1) ls rest)) : W p l e R s m args below meth c H locs cells slots Q (F0 m pc ls (.long x :: .int (nI j) :: .ref a :: rest)) :=
  va_last hx hb hK hP hD hS q0 t0 ha ht (vp_in_nI hj hn) hdg (fun H1 locs1 h1 h2 h3 => by rw [nI_clamp (by omega)] at h1 h2; exact kk H1 locs1 h1 h2 h3)
theorem fz_newi (hx : p.tables.exec = Jvm.exec) (hb : c.code = cc) (harr : (Cond.arrayClass (.int)).before args s = true) (hK : va_K D cl tys s) (t0 : Nat) {cA : ClassId} (ht : tys[t0]? = some (cA, .int)) (hP : va_P D cl ws H) (hD : va_D A ws) (hS : va_S A H0 H locs) (hA : ∀ q, H0.size ≤ q → A q) {N : Nat} (hN : N * 4 ≤ 536870912) (hcells : cells + 1 ≤ R.cells) (hslots : slots + N ≤ R.slots) (hdg : decode cc pc = .ok (.newarray .int, 2))
    (kk : ∀ (q : Nat) (H1 : Heap), va_P D cl (ws ++ [(q, .inl (cA, N, .inl (nf (fun _ => 0))))]) H1 → va_D A (ws ++ [(q, .inl (cA, N, .inl (nf (fun _ => 0))))]) → va_S A H0 H1 locs → W p l e R s m args below meth c H1 locs (cells + 1) (slots + N) Q (F0 m (pc + 2) ls (.ref q :: rest))) : W p l e R s m args below meth c H locs cells slots Q (F0 m pc ls (.int (nI N) :: rest)) := by
  have hN2 : N < 2 ^ 31 := by omega
  refine va_newa (atype := .int) (ty := .int) hx hb harr rfl hK hP hD hS hA (a0 := (N, .inl (nf (fun _ => 0)))) (fun cA => by rw [← fz_nf0]; rfl) (nI_pos hN2) (nI_clamp hN2) hN hcells hslots hdg (fun q cA2 H1 hK2 hP2 hD2 hS2 => ?_)
  have e := fz_ty (ty := .int) rfl hK hK2 ht (show (tys ++ [(cA2, FieldType.int)])[tys.length]? = some (cA2, .int) by simp)
  subst e
  exact kk q H1 hP2 hD2 hS2
theorem fz_newb (hx : p.tables.exec = Jvm.exec) (hb : c.code = cc) (harr : (Cond.arrayClass (.byte)).before args s = true) (hK : va_K D cl tys s) (t0 : Nat) {cA : ClassId} (ht : tys[t0]? = some (cA, .byte)) (hP : va_P D cl ws H) (hD : va_D A ws) (hS : va_S A H0 H locs) (hA : ∀ q, H0.size ≤ q → A q) {N : Nat} (hN : N * 1 ≤ 536870912) (hcells : cells + 1 ≤ R.cells) (hslots : slots + N ≤ R.slots) (hdg : decode cc pc = .ok (.newarray .byte, 2))
    (kk : ∀ (q : Nat) (H1 : Heap), va_P D cl (ws ++ [(q, .inl (cA, N, .inl (nf (fun _ => 0))))]) H1 → va_D A (ws ++ [(q, .inl (cA, N, .inl (nf (fun _ => 0))))]) → va_S A H0 H1 locs → W p l e R s m args below meth c H1 locs (cells + 1) (slots + N) Q (F0 m (pc + 2) ls (.ref q :: rest))) : W p l e R s m args below meth c H locs cells slots Q (F0 m pc ls (.int (nI N) :: rest)) := by
  have hN2 : N < 2 ^ 31 := by omega
  refine va_newa (atype := .byte) (ty := .byte) hx hb harr rfl hK hP hD hS hA (a0 := (N, .inl (nf (fun _ => 0)))) (fun cA => by rw [← fz_nf0]; rfl) (nI_pos hN2) (nI_clamp hN2) hN hcells hslots hdg (fun q cA2 H1 hK2 hP2 hD2 hS2 => ?_)
  have e := fz_ty (ty := .byte) rfl hK hK2 ht (show (tys ++ [(cA2, FieldType.byte)])[tys.length]? = some (cA2, .byte) by simp)
  subst e
  exact kk q H1 hP2 hD2 hS2
theorem fz_newl (hx : p.tables.exec = Jvm.exec) (hb : c.code = cc) (harr : (Cond.arrayClass (.long)).before args s = true) (hK : va_K D cl tys s) (t0 : Nat) {cA : ClassId} (ht : tys[t0]? = some (cA, .long)) (hP : va_P D cl ws H) (hD : va_D A ws) (hS : va_S A H0 H locs) (hA : ∀ q, H0.size ≤ q → A q) {N : Nat} (hN : N * 8 ≤ 536870912) (hcells : cells + 1 ≤ R.cells) (hslots : slots + N ≤ R.slots) (hdg : decode cc pc = .ok (.newarray .long, 2))
    (kk : ∀ (q : Nat) (H1 : Heap), va_P D cl (ws ++ [(q, .inl (cA, N, .inr (.inl (fun _ => 0))))]) H1 → va_D A (ws ++ [(q, .inl (cA, N, .inr (.inl (fun _ => 0))))]) → va_S A H0 H1 locs → W p l e R s m args below meth c H1 locs (cells + 1) (slots + N) Q (F0 m (pc + 2) ls (.ref q :: rest))) : W p l e R s m args below meth c H locs cells slots Q (F0 m pc ls (.int (nI N) :: rest)) := by
  have hN2 : N < 2 ^ 31 := by omega
  refine va_newa (atype := .long) (ty := .long) hx hb harr rfl hK hP hD hS hA (a0 := (N, .inr (.inl (fun _ => 0)))) (fun cA => rfl) (nI_pos hN2) (nI_clamp hN2) hN hcells hslots hdg (fun q cA2 H1 hK2 hP2 hD2 hS2 => ?_)
  have e := fz_ty (ty := .long) rfl hK hK2 ht (show (tys ++ [(cA2, FieldType.long)])[tys.length]? = some (cA2, .long) by simp)
  subst e
  exact kk q H1 hP2 hD2 hS2
theorem fz_alen (hx : p.tables.exec = Jvm.exec) (hb : c.code = cc) (hK : va_K D cl tys s) (hP : va_P D cl ws H) (q0 t0 : Nat) {cA : ClassId} {n : Nat} {y : (Nat → Int32) ⊕ (Nat → Int64) ⊕ (Nat → UInt32) ⊕ (Nat → UInt64) ⊕ (Nat → Option Nat)} (ha : ws[q0]? = some (a, .inl (cA, n, y))) {ty : FieldType} (ht : tys[t0]? = some (cA, ty)) (hdg : decode cc pc = .ok (.arraylength, 1))
    (kk : W p l e R s m args below meth c H locs cells slots Q (F0 m (pc + 1) ls (.int (nI n) :: rest))) : W p l e R s m args below meth c H locs cells slots Q (F0 m pc ls (.ref a :: rest)) := va_alen hx hb hK hP q0 t0 ha ht rfl hdg kk
theorem fz_cpyi (hx : p.tables.exec = Jvm.exec) (hb : c.code = cc) (hml : c.maxLocals = ls.size) {own : String} {index : Nat} (hown : s.vm.findClass own = some m.cls) (hlink : (Cond.methodLink own index arraycopyName).before args s = true) (hnat : (Cond.native arraycopyName).before args s = true) (hstat : (Cond.static arraycopyName).before args s = true) (hini : (Cond.initialized "java/lang/System").before args s = true)
    (hK : va_K D cl tys s) (hP : va_P D cl ws H) (hD : va_D A ws) (hS : va_S A H0 H locs) (q0 q1 t0 : Nat) {a0 : Nat} {cA : ClassId} {n0 n1 n : Nat} {f g : Nat → Nat} (ha0 : ws[q0]? = some (a0, .inl (cA, n0, .inl (nf f)))) (ha1 : ws[q1]? = some (a, .inl (cA, n1, .inl (nf g)))) (ht0 : tys[t0]? = some (cA, .int)) (h4 : n ≤ n0) (h5 : n ≤ n1) (h31 : n < 2 ^ 31)
    (hframes : 1 ≤ R.frames) (hlocals : (rest.map fun v => v.category).sum + (nativeFrameWords "java/lang/System" "arraycopy" 5 + 11) ≤ R.locals) (hdg : decode cc pc = .ok (.invokestatic index, 3))
    (kk : ∀ (H1 : Heap) (locs1 : List Loc), va_P D cl (ws.set q1 (a, .inl (cA, n1, .inl (nf (cpz f g n))))) H1 → va_D A (ws.set q1 (a, .inl (cA, n1, .inl (nf (cpz f g n))))) → va_S A H0 H1 locs1 → W p l e R s m args below meth c H1 locs1 cells slots Q (F0 m (pc + 3) ls rest)) : W p l e R s m args below meth c H locs cells slots Q (F0 m pc ls (.int (nI n) :: .int (nI 0) :: .ref a :: .int (nI 0) :: .ref a0 :: rest)) := by
  have e0 : (nI 0).toNatClampNeg = 0 := nI_clamp (by omega)
  refine va_copyi (ty := .int) hx hb hml hown hlink hnat hstat hini hK hP hD hS q0 q1 t0 t0 ha0 ha1 ht0 ht0 rfl (nI_pos (by omega)) (nI_pos (by omega)) (nI_pos h31) (by rw [e0, nI_clamp h31]; omega) (by rw [e0, nI_clamp h31]; omega) ?_ hframes hlocals hdg (fun H1 locs1 h1 h2 h3 => ?_)
  · intro i hi
    rw [nI_clamp h31] at hi
    rfl
  · rw [e0, nI_clamp h31, cpz_nf] at h1 h2
    exact kk H1 locs1 h1 h2 h3
theorem fz_cpyb (hx : p.tables.exec = Jvm.exec) (hb : c.code = cc) (hml : c.maxLocals = ls.size) {own : String} {index : Nat} (hown : s.vm.findClass own = some m.cls) (hlink : (Cond.methodLink own index arraycopyName).before args s = true) (hnat : (Cond.native arraycopyName).before args s = true) (hstat : (Cond.static arraycopyName).before args s = true) (hini : (Cond.initialized "java/lang/System").before args s = true)
    (hK : va_K D cl tys s) (hP : va_P D cl ws H) (hD : va_D A ws) (hS : va_S A H0 H locs) (q0 q1 t0 : Nat) {a0 : Nat} {cA : ClassId} {n0 n1 n : Nat} {f g : Nat → Nat} (ha0 : ws[q0]? = some (a0, .inl (cA, n0, .inl (nf f)))) (ha1 : ws[q1]? = some (a, .inl (cA, n1, .inl (nf g)))) (ht0 : tys[t0]? = some (cA, .byte)) (hfit : ∀ i, i < n → fits .byte (.int (nI (f i))) = true) (h4 : n ≤ n0) (h5 : n ≤ n1) (h31 : n < 2 ^ 31)
    (hframes : 1 ≤ R.frames) (hlocals : (rest.map fun v => v.category).sum + (nativeFrameWords "java/lang/System" "arraycopy" 5 + 11) ≤ R.locals) (hdg : decode cc pc = .ok (.invokestatic index, 3))
    (kk : ∀ (H1 : Heap) (locs1 : List Loc), va_P D cl (ws.set q1 (a, .inl (cA, n1, .inl (nf (cpz f g n))))) H1 → va_D A (ws.set q1 (a, .inl (cA, n1, .inl (nf (cpz f g n))))) → va_S A H0 H1 locs1 → W p l e R s m args below meth c H1 locs1 cells slots Q (F0 m (pc + 3) ls rest)) : W p l e R s m args below meth c H locs cells slots Q (F0 m pc ls (.int (nI n) :: .int (nI 0) :: .ref a :: .int (nI 0) :: .ref a0 :: rest)) := by
  have e0 : (nI 0).toNatClampNeg = 0 := nI_clamp (by omega)
  refine va_copyi (ty := .byte) hx hb hml hown hlink hnat hstat hini hK hP hD hS q0 q1 t0 t0 ha0 ha1 ht0 ht0 rfl (nI_pos (by omega)) (nI_pos (by omega)) (nI_pos h31) (by rw [e0, nI_clamp h31]; omega) (by rw [e0, nI_clamp h31]; omega) ?_ hframes hlocals hdg (fun H1 locs1 h1 h2 h3 => ?_)
  · intro i hi
    rw [nI_clamp h31] at hi
    rw [e0, Nat.zero_add]; exact hfit i hi
  · rw [e0, nI_clamp h31, cpz_nf] at h1 h2
    exact kk H1 locs1 h1 h2 h3
theorem fz_cpyl (hx : p.tables.exec = Jvm.exec) (hb : c.code = cc) (hml : c.maxLocals = ls.size) {own : String} {index : Nat} (hown : s.vm.findClass own = some m.cls) (hlink : (Cond.methodLink own index arraycopyName).before args s = true) (hnat : (Cond.native arraycopyName).before args s = true) (hstat : (Cond.static arraycopyName).before args s = true) (hini : (Cond.initialized "java/lang/System").before args s = true)
    (hK : va_K D cl tys s) (hP : va_P D cl ws H) (hD : va_D A ws) (hS : va_S A H0 H locs) (q0 q1 t0 : Nat) {a0 : Nat} {cA : ClassId} {n0 n1 n : Nat} {f g : Nat → Int64} (ha0 : ws[q0]? = some (a0, .inl (cA, n0, .inr (.inl f)))) (ha1 : ws[q1]? = some (a, .inl (cA, n1, .inr (.inl g)))) (ht0 : tys[t0]? = some (cA, .long)) (h4 : n ≤ n0) (h5 : n ≤ n1) (h31 : n < 2 ^ 31)
    (hframes : 1 ≤ R.frames) (hlocals : (rest.map fun v => v.category).sum + (nativeFrameWords "java/lang/System" "arraycopy" 5 + 11) ≤ R.locals) (hdg : decode cc pc = .ok (.invokestatic index, 3))
    (kk : ∀ (H1 : Heap) (locs1 : List Loc), va_P D cl (ws.set q1 (a, .inl (cA, n1, .inr (.inl (cpz f g n))))) H1 → va_D A (ws.set q1 (a, .inl (cA, n1, .inr (.inl (cpz f g n))))) → va_S A H0 H1 locs1 → W p l e R s m args below meth c H1 locs1 cells slots Q (F0 m (pc + 3) ls rest)) : W p l e R s m args below meth c H locs cells slots Q (F0 m pc ls (.int (nI n) :: .int (nI 0) :: .ref a :: .int (nI 0) :: .ref a0 :: rest)) := by
  have e0 : (nI 0).toNatClampNeg = 0 := nI_clamp (by omega)
  refine va_copyl (ty := .long) hx hb hml hown hlink hnat hstat hini hK hP hD hS q0 q1 t0 t0 ha0 ha1 ht0 ht0 rfl (nI_pos (by omega)) (nI_pos (by omega)) (nI_pos h31) (by rw [e0, nI_clamp h31]; omega) (by rw [e0, nI_clamp h31]; omega) ?_ hframes hlocals hdg (fun H1 locs1 h1 h2 h3 => ?_)
  · intro i hi
    rw [nI_clamp h31] at hi
    rfl
  · rw [e0, nI_clamp h31, cpz_cpy] at h1 h2
    exact kk H1 locs1 h1 h2 h3
theorem fz_subP {ws' : va_W} (hP : va_P D cl ws H) (is : List Nat) (hs : is.map (fun i => ws[i]?) = ws'.map some) : va_P D cl ws' H := by
  intro k q hq
  have h1 : (ws'.map some)[k]? = some (some q) := by rw [List.getElem?_map, hq]; rfl
  rw [← hs, List.getElem?_map] at h1
  cases h2 : is[k]? with
  | none => rw [h2] at h1; cases h1
  | some i =>
    rw [h2] at h1
    exact hP i q (Option.some.inj h1)
def StdI {S : Type} (l : Launch) (y : MethodName) (w : List Cond) (fr lo mc ms : Nat) (D : va_G) (cl : List vw_C) (tys : List (ClassId × FieldType)) (av : List Value) (w0 : va_W) (post : Int32 → S → Prop) (w1 : S → va_W) : Prop := ∀ sz : Nat, Met l y w { frames := fr, cells := mc, slots := ms, locals := lo } (va_Pc av (fun U => U.heap.size = sz ∧ va_P D cl w0 U.heap ∧ va_K D cl tys U ∧ va_D (fun _ => True) w0)) (va_Qi post (fun u t => va_P D cl (w1 u) t.heap ∧ va_K D cl tys t ∧ va_D (va_A w0 sz) (w1 u)) (va_A w0 sz)) mc ms (va_A w0 sz)
theorem StdI.mk {S : Type} {y : MethodName} {w w' : List Cond} {fr lo mc ms : Nat} {av : List Value} {w0 : va_W} {post : Int32 → S → Prop} {w1 : S → va_W} {maxL : Nat} (hy : plainName y.cls = true) (hw : w = Cond.code y cc maxL (some .int) :: w') (hlen : (lg_sl av).length ≤ maxL)
    (body : ∀ (p : Program) (e : Env) (s : State) (m : MethodId) (below : List Frame) (meth : Method) (c : Code) (A : Nat → Prop) (Z : State → Prop) (ls : Array Slot), p.tables.exec = Jvm.exec → c.code = cc → c.maxLocals = maxL → s.vm.findClass y.cls = some m.cls → (∀ x ∈ w, x.before av.toArray s = true) → meth.name = y.name → va_P D cl w0 s.heap → va_K D cl tys s → va_D A w0 → (∀ q, s.heap.size ≤ q → A q) → va_S A s.heap s.heap [] →
      (∀ (r : Int32) (u : S) (H : Heap) (locs : List Loc) (pc : Nat) (ls : Array Slot), post r u → va_P D cl (w1 u) H → va_D A (w1 u) → va_S A s.heap H locs → decode cc pc = .ok (.ireturn, 1) → W p l e { frames := fr, cells := mc, slots := ms, locals := lo } s m av.toArray below meth c H locs mc ms Z (F0 m pc ls [.int r])) →
      lv_has ls maxL (lv_args 0 av) → W p l e { frames := fr, cells := mc, slots := ms, locals := lo } s m av.toArray below meth c s.heap [] 0 0 Z (F0 m 0 ls [])) : StdI l y w fr lo mc ms D cl tys av w0 post w1 := by
  intro sz
  refine Met.ofW (cc := cc) (maxL := maxL) (ret := (some .int)) hy hw ?_
  intro p e s m args below meth c s₁ B hml hv
  obtain ⟨rfl, hsz, hP, hK, hD0⟩ := hv
  subst hsz
  have hr := B.returns
  have hlocks := B.notSynchronized
  have hts := atoms_spec (ws := w) B.pre
  have hown : s.vm.findClass y.cls = some m.cls := findClass_of_methodNamed B.named
  have hin : meth.name = y.name := (name_of_methodNamed B.named B.method).1
  have hl := lv_entry av (n := maxL) hlen
  rw [lg_entry_eq]
  exact body p e s m below meth c (va_A w0 s.heap.size) (MQ below (va_Qi post (fun u t => va_P D cl (w1 u) t.heap ∧ va_K D cl tys t ∧ va_D (va_A w0 s.heap.size) (w1 u)) (va_A w0 s.heap.size)) av.toArray s mc ms (va_A w0 s.heap.size)) _ B.exec B.bytes hml hown hts hin hP hK hD0.self (fun q h => Or.inr h) va_S.rf
    (fun r u H locs pc ls hp hP1 hD1 hS1 hdg => W.iret B.exec B.bytes hr (fun t ht hW => ⟨⟨r, u, rfl, hp, by rw [ht]; exact hP1, va_K.moved hW.alike hK, hD1⟩, hS1.F ht⟩) hS1.2.2 hdg) hl
theorem StdZ.mk {S : Type} {y : MethodName} {w w' : List Cond} {fr lo mc ms : Nat} {av : List Value} {w0 : va_W} {post : Int32 → S → Prop} {w1 : S → va_W} {maxL : Nat} (hy : plainName y.cls = true) (hw : w = Cond.code y cc maxL (some .boolean) :: w') (hlen : (lg_sl av).length ≤ maxL)
    (body : ∀ (p : Program) (e : Env) (s : State) (m : MethodId) (below : List Frame) (meth : Method) (c : Code) (A : Nat → Prop) (Z : State → Prop) (ls : Array Slot), p.tables.exec = Jvm.exec → c.code = cc → c.maxLocals = maxL → s.vm.findClass y.cls = some m.cls → (∀ x ∈ w, x.before av.toArray s = true) → meth.name = y.name → va_P D cl w0 s.heap → va_K D cl tys s → va_D A w0 → (∀ q, s.heap.size ≤ q → A q) → va_S A s.heap s.heap [] →
      (∀ (r : Int32) (u : S) (H : Heap) (locs : List Loc) (pc : Nat) (ls : Array Slot), (r = 0 ∨ r = 1) → post r u → va_P D cl (w1 u) H → va_D A (w1 u) → va_S A s.heap H locs → decode cc pc = .ok (.ireturn, 1) → W p l e { frames := fr, cells := mc, slots := ms, locals := lo } s m av.toArray below meth c H locs mc ms Z (F0 m pc ls [.int r])) →
      lv_has ls maxL (lv_args 0 av) → W p l e { frames := fr, cells := mc, slots := ms, locals := lo } s m av.toArray below meth c s.heap [] 0 0 Z (F0 m 0 ls [])) : StdI l y w fr lo mc ms D cl tys av w0 post w1 := by
  intro sz
  refine Met.ofW (cc := cc) (maxL := maxL) (ret := (some .boolean)) hy hw ?_
  intro p e s m args below meth c s₁ B hml hv
  obtain ⟨rfl, hsz, hP, hK, hD0⟩ := hv
  subst hsz
  have hr := B.returns
  have hlocks := B.notSynchronized
  have hts := atoms_spec (ws := w) B.pre
  have hown : s.vm.findClass y.cls = some m.cls := findClass_of_methodNamed B.named
  have hin : meth.name = y.name := (name_of_methodNamed B.named B.method).1
  have hl := lv_entry av (n := maxL) hlen
  rw [lg_entry_eq]
  exact body p e s m below meth c (va_A w0 s.heap.size) (MQ below (va_Qi post (fun u t => va_P D cl (w1 u) t.heap ∧ va_K D cl tys t ∧ va_D (va_A w0 s.heap.size) (w1 u)) (va_A w0 s.heap.size)) av.toArray s mc ms (va_A w0 s.heap.size)) _ B.exec B.bytes hml hown hts hin hP hK hD0.self (fun q h => Or.inr h) va_S.rf
    (fun r u H locs pc ls hz hp hP1 hD1 hS1 hdg => W.zret B.exec B.bytes hr (by rcases hz with h | h <;> rw [h] <;> rfl) (fun t ht hW => ⟨⟨r, u, rfl, hp, by rw [ht]; exact hP1, va_K.moved hW.alike hK, hD1⟩, hS1.F ht⟩) hS1.2.2 hdg) hl
def StdL {S : Type} (l : Launch) (y : MethodName) (w : List Cond) (fr lo mc ms : Nat) (D : va_G) (cl : List vw_C) (tys : List (ClassId × FieldType)) (av : List Value) (w0 : va_W) (post : Int64 → S → Prop) (w1 : S → va_W) : Prop := ∀ sz : Nat, Met l y w { frames := fr, cells := mc, slots := ms, locals := lo } (va_Pc av (fun U => U.heap.size = sz ∧ va_P D cl w0 U.heap ∧ va_K D cl tys U ∧ va_D (fun _ => True) w0)) (va_Ql post (fun u t => va_P D cl (w1 u) t.heap ∧ va_K D cl tys t ∧ va_D (va_A w0 sz) (w1 u)) (va_A w0 sz)) mc ms (va_A w0 sz)
theorem StdL.mk {S : Type} {y : MethodName} {w w' : List Cond} {fr lo mc ms : Nat} {av : List Value} {w0 : va_W} {post : Int64 → S → Prop} {w1 : S → va_W} {maxL : Nat} (hy : plainName y.cls = true) (hw : w = Cond.code y cc maxL (some .long) :: w') (hlen : (lg_sl av).length ≤ maxL)
    (body : ∀ (p : Program) (e : Env) (s : State) (m : MethodId) (below : List Frame) (meth : Method) (c : Code) (A : Nat → Prop) (Z : State → Prop) (ls : Array Slot), p.tables.exec = Jvm.exec → c.code = cc → c.maxLocals = maxL → s.vm.findClass y.cls = some m.cls → (∀ x ∈ w, x.before av.toArray s = true) → meth.name = y.name → va_P D cl w0 s.heap → va_K D cl tys s → va_D A w0 → (∀ q, s.heap.size ≤ q → A q) → va_S A s.heap s.heap [] →
      (∀ (r : Int64) (u : S) (H : Heap) (locs : List Loc) (pc : Nat) (ls : Array Slot), post r u → va_P D cl (w1 u) H → va_D A (w1 u) → va_S A s.heap H locs → decode cc pc = .ok (.lreturn, 1) → W p l e { frames := fr, cells := mc, slots := ms, locals := lo } s m av.toArray below meth c H locs mc ms Z (F0 m pc ls [.long r])) →
      lv_has ls maxL (lv_args 0 av) → W p l e { frames := fr, cells := mc, slots := ms, locals := lo } s m av.toArray below meth c s.heap [] 0 0 Z (F0 m 0 ls [])) : StdL l y w fr lo mc ms D cl tys av w0 post w1 := by
  intro sz
  refine Met.ofW (cc := cc) (maxL := maxL) (ret := (some .long)) hy hw ?_
  intro p e s m args below meth c s₁ B hml hv
  obtain ⟨rfl, hsz, hP, hK, hD0⟩ := hv
  subst hsz
  have hr := B.returns
  have hlocks := B.notSynchronized
  have hts := atoms_spec (ws := w) B.pre
  have hown : s.vm.findClass y.cls = some m.cls := findClass_of_methodNamed B.named
  have hin : meth.name = y.name := (name_of_methodNamed B.named B.method).1
  have hl := lv_entry av (n := maxL) hlen
  rw [lg_entry_eq]
  exact body p e s m below meth c (va_A w0 s.heap.size) (MQ below (va_Ql post (fun u t => va_P D cl (w1 u) t.heap ∧ va_K D cl tys t ∧ va_D (va_A w0 s.heap.size) (w1 u)) (va_A w0 s.heap.size)) av.toArray s mc ms (va_A w0 s.heap.size)) _ B.exec B.bytes hml hown hts hin hP hK hD0.self (fun q h => Or.inr h) va_S.rf
    (fun r u H locs pc ls hp hP1 hD1 hS1 hdg => W.lret B.exec B.bytes hr (fun t ht hW => ⟨⟨r, u, rfl, hp, by rw [ht]; exact hP1, va_K.moved hW.alike hK, hD1⟩, hS1.F ht⟩) hS1.2.2 hdg) hl
def StdV {S : Type} (l : Launch) (y : MethodName) (w : List Cond) (fr lo mc ms : Nat) (D : va_G) (cl : List vw_C) (tys : List (ClassId × FieldType)) (av : List Value) (w0 : va_W) (post : S → Prop) (w1 : S → va_W) : Prop := ∀ sz : Nat, Met l y w { frames := fr, cells := mc, slots := ms, locals := lo } (va_Pc av (fun U => U.heap.size = sz ∧ va_P D cl w0 U.heap ∧ va_K D cl tys U ∧ va_D (fun _ => True) w0)) (va_Qv post (fun u t => va_P D cl (w1 u) t.heap ∧ va_K D cl tys t ∧ va_D (va_A w0 sz) (w1 u)) (va_A w0 sz)) mc ms (va_A w0 sz)
theorem StdV.mk {S : Type} {y : MethodName} {w w' : List Cond} {fr lo mc ms : Nat} {av : List Value} {w0 : va_W} {post : S → Prop} {w1 : S → va_W} {maxL : Nat} (hy : plainName y.cls = true) (hw : w = Cond.code y cc maxL (none) :: w') (hlen : (lg_sl av).length ≤ maxL)
    (body : ∀ (p : Program) (e : Env) (s : State) (m : MethodId) (below : List Frame) (meth : Method) (c : Code) (A : Nat → Prop) (Z : State → Prop) (ls : Array Slot), p.tables.exec = Jvm.exec → c.code = cc → c.maxLocals = maxL → s.vm.findClass y.cls = some m.cls → (∀ x ∈ w, x.before av.toArray s = true) → meth.name = y.name → va_P D cl w0 s.heap → va_K D cl tys s → va_D A w0 → (∀ q, s.heap.size ≤ q → A q) → va_S A s.heap s.heap [] →
      (∀ (u : S) (H : Heap) (locs : List Loc) (pc : Nat) (ls : Array Slot), post u → va_P D cl (w1 u) H → va_D A (w1 u) → va_S A s.heap H locs → decode cc pc = .ok (.return_, 1) → W p l e { frames := fr, cells := mc, slots := ms, locals := lo } s m av.toArray below meth c H locs mc ms Z (F0 m pc ls [])) →
      lv_has ls maxL (lv_args 0 av) → W p l e { frames := fr, cells := mc, slots := ms, locals := lo } s m av.toArray below meth c s.heap [] 0 0 Z (F0 m 0 ls [])) : StdV l y w fr lo mc ms D cl tys av w0 post w1 := by
  intro sz
  refine Met.ofW (cc := cc) (maxL := maxL) (ret := (none)) hy hw ?_
  intro p e s m args below meth c s₁ B hml hv
  obtain ⟨rfl, hsz, hP, hK, hD0⟩ := hv
  subst hsz
  have hr := B.returns
  have hlocks := B.notSynchronized
  have hts := atoms_spec (ws := w) B.pre
  have hown : s.vm.findClass y.cls = some m.cls := findClass_of_methodNamed B.named
  have hin : meth.name = y.name := (name_of_methodNamed B.named B.method).1
  have hl := lv_entry av (n := maxL) hlen
  rw [lg_entry_eq]
  exact body p e s m below meth c (va_A w0 s.heap.size) (MQ below (va_Qv post (fun u t => va_P D cl (w1 u) t.heap ∧ va_K D cl tys t ∧ va_D (va_A w0 s.heap.size) (w1 u)) (va_A w0 s.heap.size)) av.toArray s mc ms (va_A w0 s.heap.size)) _ B.exec B.bytes hml hown hts hin hP hK hD0.self (fun q h => Or.inr h) va_S.rf
    (fun u H locs pc ls hp hP1 hD1 hS1 hdg => W.vret B.exec B.bytes hr (fun t ht hW => ⟨⟨u, rfl, hp, by rw [ht]; exact hP1, va_K.moved hW.alike hK, hD1⟩, hS1.F ht⟩) hS1.2.2 hdg) hl
def StdR {S : Type} (l : Launch) (y : MethodName) (w : List Cond) (fr lo mc ms : Nat) (D : va_G) (cl : List vw_C) (tys : List (ClassId × FieldType)) (av : List Value) (w0 : va_W) (post : Nat → S → Prop) (w1 : S → Nat → va_W) : Prop := ∀ sz : Nat, Met l y w { frames := fr, cells := mc, slots := ms, locals := lo } (va_Pc av (fun U => U.heap.size = sz ∧ va_P D cl w0 U.heap ∧ va_K D cl tys U ∧ va_D (fun _ => True) w0)) (va_Qr (S := S) (fun _ => True) (fun u r t => post r u ∧ va_P D cl (w1 u r) t.heap ∧ va_K D cl tys t ∧ va_D (va_A w0 sz) (w1 u r)) (va_A w0 sz)) mc ms (va_A w0 sz)
theorem StdR.mk {S : Type} {y : MethodName} {w w' : List Cond} {fr lo mc ms : Nat} {av : List Value} {w0 : va_W} {post : Nat → S → Prop} {w1 : S → Nat → va_W} {maxL : Nat} {rt : FieldType} (hrt : (∃ n, rt = .object n) ∨ ∃ t, rt = .array t) (hy : plainName y.cls = true) (hw : w = Cond.code y cc maxL (some rt) :: w') (hlen : (lg_sl av).length ≤ maxL)
    (body : ∀ (p : Program) (e : Env) (s : State) (m : MethodId) (below : List Frame) (meth : Method) (c : Code) (A : Nat → Prop) (Z : State → Prop) (ls : Array Slot), p.tables.exec = Jvm.exec → c.code = cc → c.maxLocals = maxL → s.vm.findClass y.cls = some m.cls → (∀ x ∈ w, x.before av.toArray s = true) → meth.name = y.name → va_P D cl w0 s.heap → va_K D cl tys s → va_D A w0 → (∀ q, s.heap.size ≤ q → A q) → va_S A s.heap s.heap [] →
      (∀ (r : Nat) (u : S) (H : Heap) (locs : List Loc) (pc : Nat) (ls : Array Slot), post r u → va_P D cl (w1 u r) H → va_D A (w1 u r) → va_S A s.heap H locs → decode cc pc = .ok (.areturn, 1) → W p l e { frames := fr, cells := mc, slots := ms, locals := lo } s m av.toArray below meth c H locs mc ms Z (F0 m pc ls [.ref r])) →
      lv_has ls maxL (lv_args 0 av) → W p l e { frames := fr, cells := mc, slots := ms, locals := lo } s m av.toArray below meth c s.heap [] 0 0 Z (F0 m 0 ls [])) : StdR l y w fr lo mc ms D cl tys av w0 post w1 := by
  intro sz
  refine Met.ofW (cc := cc) (maxL := maxL) (ret := (some rt)) hy hw ?_
  intro p e s m args below meth c s₁ B hml hv
  obtain ⟨rfl, hsz, hP, hK, hD0⟩ := hv
  subst hsz
  have hr := B.returns
  have hlocks := B.notSynchronized
  have hts := atoms_spec (ws := w) B.pre
  have hown : s.vm.findClass y.cls = some m.cls := findClass_of_methodNamed B.named
  have hin : meth.name = y.name := (name_of_methodNamed B.named B.method).1
  have hl := lv_entry av (n := maxL) hlen
  rw [lg_entry_eq]
  exact body p e s m below meth c (va_A w0 s.heap.size) (MQ below (va_Qr (S := S) (fun _ => True) (fun u r t => post r u ∧ va_P D cl (w1 u r) t.heap ∧ va_K D cl tys t ∧ va_D (va_A w0 s.heap.size) (w1 u r)) (va_A w0 s.heap.size)) av.toArray s mc ms (va_A w0 s.heap.size)) _ B.exec B.bytes hml hown hts hin hP hK hD0.self (fun q h => Or.inr h) va_S.rf
    (fun r u H locs pc ls hp hP1 hD1 hS1 hdg => W.aret B.exec B.bytes hr hrt (Or.inr ⟨r, rfl⟩) (fun t ht hW => ⟨⟨u, r, rfl, trivial, hp, by rw [ht]; exact hP1, va_K.moved hW.alike hK, hD1⟩, hS1.F ht⟩) hS1.2.2 hdg) hl
theorem StdI.callV {S : Type} {y : MethodName} {w : List Cond} {fr lo mc ms nL n index maxL : Nat} {own C : String} {bytes : ByteArray} {ret : Option FieldType} {As : List Value} {b : Nat} {w0 wr : va_W} {post : Int32 → S → Prop} {w1 : S → va_W} {Ts : List Cond} {st0 : List Value} (hM : StdI l y w fr lo mc ms D cl tys (.ref b :: As) w0 post w1) (Sx : CallFix p m c cc nL s args Ts own) (cw : CallW R s args own C index y bytes maxL ret w { frames := fr, cells := mc, slots := ms, locals := lo } mc ms n) (hK : va_K D cl tys s) (hP : va_P D cl ws H) (hD : va_D A ws) (hS : va_S A H0 H locs) (hA : ∀ q, H0.size ≤ q → A q) (isC isR : List Nat) (hC : isC.map (fun i => ws[i]?) = w0.map some) (hR : isR.map (fun i => ws[i]?) = wr.map some) (hnC : va_nd isC = true) (hnR : va_nd isR = true) (hdis : ∀ i ∈ isR, i ∉ isC) {ci q0 : Nat} {qc : vw_C} {fs : List Value} (hc : cl[ci]? = some qc) (hqC : qc.1 = C) (he : w0[q0]? = some (b, .inr (ci, fs))) (hlen : As.length = n) (hsz : ls.size = nL) (hst : st0 = As.reverse ++ .ref b :: rest) (hW : (rest.map fun v => v.category).sum ≤ 8) (hdg : decode cc pc = .ok (.invokevirtual index, 3)) (hf : cells + mc ≤ R.cells ∧ slots + ms ≤ R.slots)
    (kk : ∀ (r : Int32) (u : S) (H1 : Heap) (locs1 : List Loc), post r u → va_P D cl (wr ++ (w1 u)) H1 → va_D A (wr ++ (w1 u)) → va_S A H0 H1 locs1 → W p l e R s m args below meth c H1 locs1 (cells + mc) (slots + ms) Q (F0 m (pc + 3) ls (.int r :: rest))) : W p l e R s m args below meth c H locs cells slots Q (F0 m pc ls st0) := by
  have hPc : va_P D cl w0 H := fz_subP hP isC hC
  have hDc : va_D A w0 := hD.sub isC hnC hC
  have hFc := va_free (wc := w0) hD hS hA isC hC
  refine va_calli (va_runV (rest := rest) Sx (hM H.size) cw ⟨fun a U g mk q => by obtain ⟨q0, q1, qP, qK, qD⟩ := q; exact ⟨q0, q1, qP, va_K.moved (u := U) (U := U.calling g mk a) (Vm.Alike.refl U.vm) qK, qD⟩, by obtain ⟨x, h1, h2, h3⟩ := va_recv hK hPc hc he; exact ⟨x, h1, h2, by rw [← hqC]; exact h3⟩, fun U hU hW => ⟨rfl, by rw [hU], by rw [hU]; exact hPc, va_K.moved hW.alike hK, hDc.weaken (fun _ _ _ _ => trivial)⟩⟩ rfl hlen hsz hst (lv_room hW) hdg hf) hS (fun q _ h => hFc q h) hFc (fun r u t H1 locs1 ht hvm hw hB hz1 hk1 hS1 => ?_)
  obtain ⟨hP1, hK1, hD1⟩ := hB
  rw [ht] at hP1
  obtain ⟨hP2, hD2⟩ := va_join (wr := wr) hP hD isC isR hC hR hnR hdis hk1 hFc hP1 hD1
  exact kk r u H1 locs1 hw hP2 hD2 hS1
theorem StdI.callS {S : Type} {y : MethodName} {w : List Cond} {fr lo mc ms nL n index maxL : Nat} {own : String} {bytes : ByteArray} {ret : Option FieldType} {As : List Value}  {w0 wr : va_W} {post : Int32 → S → Prop} {w1 : S → va_W} {Ts : List Cond} {st0 : List Value} (hM : StdI l y w fr lo mc ms D cl tys As w0 post w1) (Sx : CallFix p m c cc nL s args Ts own) (cw : CallB R s args own index y bytes maxL ret w { frames := fr, cells := mc, slots := ms, locals := lo } mc ms n ∧ (Cond.static y).before args s = true) (hK : va_K D cl tys s) (hP : va_P D cl ws H) (hD : va_D A ws) (hS : va_S A H0 H locs) (hA : ∀ q, H0.size ≤ q → A q) (isC isR : List Nat) (hC : isC.map (fun i => ws[i]?) = w0.map some) (hR : isR.map (fun i => ws[i]?) = wr.map some) (hnC : va_nd isC = true) (hnR : va_nd isR = true) (hdis : ∀ i ∈ isR, i ∉ isC) (hlen : As.length = n) (hsz : ls.size = nL) (hst : st0 = As.reverse ++ rest) (hW : (rest.map fun v => v.category).sum ≤ 8) (hdg : decode cc pc = .ok (.invokestatic index, 3)) (hf : cells + mc ≤ R.cells ∧ slots + ms ≤ R.slots)
    (kk : ∀ (r : Int32) (u : S) (H1 : Heap) (locs1 : List Loc), post r u → va_P D cl (wr ++ (w1 u)) H1 → va_D A (wr ++ (w1 u)) → va_S A H0 H1 locs1 → W p l e R s m args below meth c H1 locs1 (cells + mc) (slots + ms) Q (F0 m (pc + 3) ls (.int r :: rest))) : W p l e R s m args below meth c H locs cells slots Q (F0 m pc ls st0) := by
  have hPc : va_P D cl w0 H := fz_subP hP isC hC
  have hDc : va_D A w0 := hD.sub isC hnC hC
  have hFc := va_free (wc := w0) hD hS hA isC hC
  refine va_calli (va_runS (rest := rest) Sx (hM H.size) cw ⟨fun a U g mk q => by obtain ⟨q0, q1, qP, qK, qD⟩ := q; exact ⟨q0, q1, qP, va_K.moved (u := U) (U := U.calling g mk a) (Vm.Alike.refl U.vm) qK, qD⟩, fun U hU hW => ⟨rfl, by rw [hU], by rw [hU]; exact hPc, va_K.moved hW.alike hK, hDc.weaken (fun _ _ _ _ => trivial)⟩⟩ rfl hlen hsz hst (lv_room hW) hdg hf) hS (fun q _ h => hFc q h) hFc (fun r u t H1 locs1 ht hvm hw hB hz1 hk1 hS1 => ?_)
  obtain ⟨hP1, hK1, hD1⟩ := hB
  rw [ht] at hP1
  obtain ⟨hP2, hD2⟩ := va_join (wr := wr) hP hD isC isR hC hR hnR hdis hk1 hFc hP1 hD1
  exact kk r u H1 locs1 hw hP2 hD2 hS1
theorem StdL.callV {S : Type} {y : MethodName} {w : List Cond} {fr lo mc ms nL n index maxL : Nat} {own C : String} {bytes : ByteArray} {ret : Option FieldType} {As : List Value} {b : Nat} {w0 wr : va_W} {post : Int64 → S → Prop} {w1 : S → va_W} {Ts : List Cond} {st0 : List Value} (hM : StdL l y w fr lo mc ms D cl tys (.ref b :: As) w0 post w1) (Sx : CallFix p m c cc nL s args Ts own) (cw : CallW R s args own C index y bytes maxL ret w { frames := fr, cells := mc, slots := ms, locals := lo } mc ms n) (hK : va_K D cl tys s) (hP : va_P D cl ws H) (hD : va_D A ws) (hS : va_S A H0 H locs) (hA : ∀ q, H0.size ≤ q → A q) (isC isR : List Nat) (hC : isC.map (fun i => ws[i]?) = w0.map some) (hR : isR.map (fun i => ws[i]?) = wr.map some) (hnC : va_nd isC = true) (hnR : va_nd isR = true) (hdis : ∀ i ∈ isR, i ∉ isC) {ci q0 : Nat} {qc : vw_C} {fs : List Value} (hc : cl[ci]? = some qc) (hqC : qc.1 = C) (he : w0[q0]? = some (b, .inr (ci, fs))) (hlen : As.length = n) (hsz : ls.size = nL) (hst : st0 = As.reverse ++ .ref b :: rest) (hW : (rest.map fun v => v.category).sum ≤ 8) (hdg : decode cc pc = .ok (.invokevirtual index, 3)) (hf : cells + mc ≤ R.cells ∧ slots + ms ≤ R.slots)
    (kk : ∀ (r : Int64) (u : S) (H1 : Heap) (locs1 : List Loc), post r u → va_P D cl (wr ++ (w1 u)) H1 → va_D A (wr ++ (w1 u)) → va_S A H0 H1 locs1 → W p l e R s m args below meth c H1 locs1 (cells + mc) (slots + ms) Q (F0 m (pc + 3) ls (.long r :: rest))) : W p l e R s m args below meth c H locs cells slots Q (F0 m pc ls st0) := by
  have hPc : va_P D cl w0 H := fz_subP hP isC hC
  have hDc : va_D A w0 := hD.sub isC hnC hC
  have hFc := va_free (wc := w0) hD hS hA isC hC
  refine va_calll (va_runV (rest := rest) Sx (hM H.size) cw ⟨fun a U g mk q => by obtain ⟨q0, q1, qP, qK, qD⟩ := q; exact ⟨q0, q1, qP, va_K.moved (u := U) (U := U.calling g mk a) (Vm.Alike.refl U.vm) qK, qD⟩, by obtain ⟨x, h1, h2, h3⟩ := va_recv hK hPc hc he; exact ⟨x, h1, h2, by rw [← hqC]; exact h3⟩, fun U hU hW => ⟨rfl, by rw [hU], by rw [hU]; exact hPc, va_K.moved hW.alike hK, hDc.weaken (fun _ _ _ _ => trivial)⟩⟩ rfl hlen hsz hst (lv_room hW) hdg hf) hS (fun q _ h => hFc q h) hFc (fun r u t H1 locs1 ht hvm hw hB hz1 hk1 hS1 => ?_)
  obtain ⟨hP1, hK1, hD1⟩ := hB
  rw [ht] at hP1
  obtain ⟨hP2, hD2⟩ := va_join (wr := wr) hP hD isC isR hC hR hnR hdis hk1 hFc hP1 hD1
  exact kk r u H1 locs1 hw hP2 hD2 hS1
theorem StdV.callV {S : Type} {y : MethodName} {w : List Cond} {fr lo mc ms nL n index maxL : Nat} {own C : String} {bytes : ByteArray} {ret : Option FieldType} {As : List Value} {b : Nat} {w0 wr : va_W} {post : S → Prop} {w1 : S → va_W} {Ts : List Cond} {st0 : List Value} (hM : StdV l y w fr lo mc ms D cl tys (.ref b :: As) w0 post w1) (Sx : CallFix p m c cc nL s args Ts own) (cw : CallW R s args own C index y bytes maxL ret w { frames := fr, cells := mc, slots := ms, locals := lo } mc ms n) (hK : va_K D cl tys s) (hP : va_P D cl ws H) (hD : va_D A ws) (hS : va_S A H0 H locs) (hA : ∀ q, H0.size ≤ q → A q) (isC isR : List Nat) (hC : isC.map (fun i => ws[i]?) = w0.map some) (hR : isR.map (fun i => ws[i]?) = wr.map some) (hnC : va_nd isC = true) (hnR : va_nd isR = true) (hdis : ∀ i ∈ isR, i ∉ isC) {ci q0 : Nat} {qc : vw_C} {fs : List Value} (hc : cl[ci]? = some qc) (hqC : qc.1 = C) (he : w0[q0]? = some (b, .inr (ci, fs))) (hlen : As.length = n) (hsz : ls.size = nL) (hst : st0 = As.reverse ++ .ref b :: rest) (hW : (rest.map fun v => v.category).sum ≤ 8) (hdg : decode cc pc = .ok (.invokevirtual index, 3)) (hf : cells + mc ≤ R.cells ∧ slots + ms ≤ R.slots)
    (kk : ∀ (u : S) (H1 : Heap) (locs1 : List Loc), post u → va_P D cl (wr ++ (w1 u)) H1 → va_D A (wr ++ (w1 u)) → va_S A H0 H1 locs1 → W p l e R s m args below meth c H1 locs1 (cells + mc) (slots + ms) Q (F0 m (pc + 3) ls (rest))) : W p l e R s m args below meth c H locs cells slots Q (F0 m pc ls st0) := by
  have hPc : va_P D cl w0 H := fz_subP hP isC hC
  have hDc : va_D A w0 := hD.sub isC hnC hC
  have hFc := va_free (wc := w0) hD hS hA isC hC
  refine va_callv (va_runV (rest := rest) Sx (hM H.size) cw ⟨fun a U g mk q => by obtain ⟨q0, q1, qP, qK, qD⟩ := q; exact ⟨q0, q1, qP, va_K.moved (u := U) (U := U.calling g mk a) (Vm.Alike.refl U.vm) qK, qD⟩, by obtain ⟨x, h1, h2, h3⟩ := va_recv hK hPc hc he; exact ⟨x, h1, h2, by rw [← hqC]; exact h3⟩, fun U hU hW => ⟨rfl, by rw [hU], by rw [hU]; exact hPc, va_K.moved hW.alike hK, hDc.weaken (fun _ _ _ _ => trivial)⟩⟩ rfl hlen hsz hst (lv_room hW) hdg hf) hS (fun q _ h => hFc q h) hFc (fun u t H1 locs1 ht hvm hw hB hz1 hk1 hS1 => ?_)
  obtain ⟨hP1, hK1, hD1⟩ := hB
  rw [ht] at hP1
  obtain ⟨hP2, hD2⟩ := va_join (wr := wr) hP hD isC isR hC hR hnR hdis hk1 hFc hP1 hD1
  exact kk u H1 locs1 hw hP2 hD2 hS1
theorem StdV.callS {S : Type} {y : MethodName} {w : List Cond} {fr lo mc ms nL n index maxL : Nat} {own : String} {bytes : ByteArray} {ret : Option FieldType} {As : List Value}  {w0 wr : va_W} {post : S → Prop} {w1 : S → va_W} {Ts : List Cond} {st0 : List Value} (hM : StdV l y w fr lo mc ms D cl tys As w0 post w1) (Sx : CallFix p m c cc nL s args Ts own) (cw : CallB R s args own index y bytes maxL ret w { frames := fr, cells := mc, slots := ms, locals := lo } mc ms n ∧ (Cond.static y).before args s = true) (hK : va_K D cl tys s) (hP : va_P D cl ws H) (hD : va_D A ws) (hS : va_S A H0 H locs) (hA : ∀ q, H0.size ≤ q → A q) (isC isR : List Nat) (hC : isC.map (fun i => ws[i]?) = w0.map some) (hR : isR.map (fun i => ws[i]?) = wr.map some) (hnC : va_nd isC = true) (hnR : va_nd isR = true) (hdis : ∀ i ∈ isR, i ∉ isC) (hlen : As.length = n) (hsz : ls.size = nL) (hst : st0 = As.reverse ++ rest) (hW : (rest.map fun v => v.category).sum ≤ 8) (hdg : decode cc pc = .ok (.invokestatic index, 3)) (hf : cells + mc ≤ R.cells ∧ slots + ms ≤ R.slots)
    (kk : ∀ (u : S) (H1 : Heap) (locs1 : List Loc), post u → va_P D cl (wr ++ (w1 u)) H1 → va_D A (wr ++ (w1 u)) → va_S A H0 H1 locs1 → W p l e R s m args below meth c H1 locs1 (cells + mc) (slots + ms) Q (F0 m (pc + 3) ls (rest))) : W p l e R s m args below meth c H locs cells slots Q (F0 m pc ls st0) := by
  have hPc : va_P D cl w0 H := fz_subP hP isC hC
  have hDc : va_D A w0 := hD.sub isC hnC hC
  have hFc := va_free (wc := w0) hD hS hA isC hC
  refine va_callv (va_runS (rest := rest) Sx (hM H.size) cw ⟨fun a U g mk q => by obtain ⟨q0, q1, qP, qK, qD⟩ := q; exact ⟨q0, q1, qP, va_K.moved (u := U) (U := U.calling g mk a) (Vm.Alike.refl U.vm) qK, qD⟩, fun U hU hW => ⟨rfl, by rw [hU], by rw [hU]; exact hPc, va_K.moved hW.alike hK, hDc.weaken (fun _ _ _ _ => trivial)⟩⟩ rfl hlen hsz hst (lv_room hW) hdg hf) hS (fun q _ h => hFc q h) hFc (fun u t H1 locs1 ht hvm hw hB hz1 hk1 hS1 => ?_)
  obtain ⟨hP1, hK1, hD1⟩ := hB
  rw [ht] at hP1
  obtain ⟨hP2, hD2⟩ := va_join (wr := wr) hP hD isC isR hC hR hnR hdis hk1 hFc hP1 hD1
  exact kk u H1 locs1 hw hP2 hD2 hS1
theorem StdV.callI {S : Type} {y : MethodName} {w : List Cond} {fr lo mc ms nL n index maxL : Nat} {own : String} {bytes : ByteArray} {As : List Value} {b : Nat} {w0 wr : va_W} {post : S → Prop} {w1 : S → va_W} {Ts : List Cond} {st0 : List Value} (hM : StdV l y w fr lo mc ms D cl tys (.ref b :: As) w0 post w1) (Sx : CallFix p m c cc nL s args Ts own) (cw : CallB R s args own index y bytes maxL none w { frames := fr, cells := mc, slots := ms, locals := lo } mc ms n ∧ y.name = "<init>" ∧ (Cond.instanceMethod y).before args s = true) (hK : va_K D cl tys s) (hP : va_P D cl ws H) (hD : va_D A ws) (hS : va_S A H0 H locs) (hA : ∀ q, H0.size ≤ q → A q) (isC isR : List Nat) (hC : isC.map (fun i => ws[i]?) = w0.map some) (hR : isR.map (fun i => ws[i]?) = wr.map some) (hnC : va_nd isC = true) (hnR : va_nd isR = true) (hdis : ∀ i ∈ isR, i ∉ isC) (hlen : As.length = n) (hsz : ls.size = nL) (hst : st0 = As.reverse ++ .ref b :: rest) (hW : (rest.map fun v => v.category).sum ≤ 8) (hdg : decode cc pc = .ok (.invokespecial index, 3)) (hf : cells + mc ≤ R.cells ∧ slots + ms ≤ R.slots)
    (kk : ∀ (u : S) (H1 : Heap) (locs1 : List Loc), post u → va_P D cl (wr ++ (w1 u)) H1 → va_D A (wr ++ (w1 u)) → va_S A H0 H1 locs1 → W p l e R s m args below meth c H1 locs1 (cells + mc) (slots + ms) Q (F0 m (pc + 3) ls (rest))) : W p l e R s m args below meth c H locs cells slots Q (F0 m pc ls st0) := by
  have hPc : va_P D cl w0 H := fz_subP hP isC hC
  have hDc : va_D A w0 := hD.sub isC hnC hC
  have hFc := va_free (wc := w0) hD hS hA isC hC
  refine va_callv (va_runI (rest := rest) Sx (hM H.size) cw ⟨fun a U g mk q => by obtain ⟨q0, q1, qP, qK, qD⟩ := q; exact ⟨q0, q1, qP, va_K.moved (u := U) (U := U.calling g mk a) (Vm.Alike.refl U.vm) qK, qD⟩, fun U hU hW => ⟨rfl, by rw [hU], by rw [hU]; exact hPc, va_K.moved hW.alike hK, hDc.weaken (fun _ _ _ _ => trivial)⟩⟩ rfl hlen hsz hst (lv_room hW) hdg hf) hS (fun q _ h => hFc q h) hFc (fun u t H1 locs1 ht hvm hw hB hz1 hk1 hS1 => ?_)
  obtain ⟨hP1, hK1, hD1⟩ := hB
  rw [ht] at hP1
  obtain ⟨hP2, hD2⟩ := va_join (wr := wr) hP hD isC isR hC hR hnR hdis hk1 hFc hP1 hD1
  exact kk u H1 locs1 hw hP2 hD2 hS1
theorem StdV.callJ {S : Type} {y : MethodName} {w : List Cond} {fr lo mc ms nL n index maxL : Nat} {own host : String} {bytes : ByteArray} {As : List Value} {b : Nat} {w0 wr : va_W} {post : S → Prop} {w1 : S → va_W} {Ts : List Cond} {st0 : List Value} (hM : StdV l y w fr lo mc ms D cl tys (.ref b :: As) w0 post w1) (Sx : CallFix p m c cc nL s args Ts own) (cw : va_CN R s args own index y host bytes maxL none w { frames := fr, cells := mc, slots := ms, locals := lo } mc ms n ∧ y.name = "<init>" ∧ (Cond.instanceMethod y).before args s = true) (hK : va_K D cl tys s) (hP : va_P D cl ws H) (hD : va_D A ws) (hS : va_S A H0 H locs) (hA : ∀ q, H0.size ≤ q → A q) (isC isR : List Nat) (hC : isC.map (fun i => ws[i]?) = w0.map some) (hR : isR.map (fun i => ws[i]?) = wr.map some) (hnC : va_nd isC = true) (hnR : va_nd isR = true) (hdis : ∀ i ∈ isR, i ∉ isC) (hlen : As.length = n) (hsz : ls.size = nL) (hst : st0 = As.reverse ++ .ref b :: rest) (hW : (rest.map fun v => v.category).sum ≤ 8) (hdg : decode cc pc = .ok (.invokespecial index, 3)) (hf : cells + mc ≤ R.cells ∧ slots + ms ≤ R.slots)
    (kk : ∀ (u : S) (H1 : Heap) (locs1 : List Loc), post u → va_P D cl (wr ++ (w1 u)) H1 → va_D A (wr ++ (w1 u)) → va_S A H0 H1 locs1 → W p l e R s m args below meth c H1 locs1 (cells + mc) (slots + ms) Q (F0 m (pc + 3) ls (rest))) : W p l e R s m args below meth c H locs cells slots Q (F0 m pc ls st0) := by
  have hPc : va_P D cl w0 H := fz_subP hP isC hC
  have hDc : va_D A w0 := hD.sub isC hnC hC
  have hFc := va_free (wc := w0) hD hS hA isC hC
  refine va_callv (va_runIN (rest := rest) Sx (hM H.size) cw ⟨fun a U g mk q => by obtain ⟨q0, q1, qP, qK, qD⟩ := q; exact ⟨q0, q1, qP, va_K.moved (u := U) (U := U.calling g mk a) (Vm.Alike.refl U.vm) qK, qD⟩, fun U hU hW => ⟨rfl, by rw [hU], by rw [hU]; exact hPc, va_K.moved hW.alike hK, hDc.weaken (fun _ _ _ _ => trivial)⟩⟩ rfl hlen hsz hst (lv_room hW) hdg hf) hS (fun q _ h => hFc q h) hFc (fun u t H1 locs1 ht hvm hw hB hz1 hk1 hS1 => ?_)
  obtain ⟨hP1, hK1, hD1⟩ := hB
  rw [ht] at hP1
  obtain ⟨hP2, hD2⟩ := va_join (wr := wr) hP hD isC isR hC hR hnR hdis hk1 hFc hP1 hD1
  exact kk u H1 locs1 hw hP2 hD2 hS1
theorem StdR.callS {S : Type} {y : MethodName} {w : List Cond} {fr lo mc ms nL n index maxL : Nat} {own : String} {bytes : ByteArray} {ret : Option FieldType} {As : List Value}  {w0 wr : va_W} {post : Nat → S → Prop} {w1 : S → Nat → va_W} {Ts : List Cond} {st0 : List Value} (hM : StdR l y w fr lo mc ms D cl tys As w0 post w1) (Sx : CallFix p m c cc nL s args Ts own) (cw : CallB R s args own index y bytes maxL ret w { frames := fr, cells := mc, slots := ms, locals := lo } mc ms n ∧ (Cond.static y).before args s = true) (hK : va_K D cl tys s) (hP : va_P D cl ws H) (hD : va_D A ws) (hS : va_S A H0 H locs) (hA : ∀ q, H0.size ≤ q → A q) (isC isR : List Nat) (hC : isC.map (fun i => ws[i]?) = w0.map some) (hR : isR.map (fun i => ws[i]?) = wr.map some) (hnC : va_nd isC = true) (hnR : va_nd isR = true) (hdis : ∀ i ∈ isR, i ∉ isC) (hlen : As.length = n) (hsz : ls.size = nL) (hst : st0 = As.reverse ++ rest) (hW : (rest.map fun v => v.category).sum ≤ 8) (hdg : decode cc pc = .ok (.invokestatic index, 3)) (hf : cells + mc ≤ R.cells ∧ slots + ms ≤ R.slots)
    (kk : ∀ (r : Nat) (u : S) (H1 : Heap) (locs1 : List Loc), post r u → va_P D cl (wr ++ (w1 u r)) H1 → va_D A (wr ++ (w1 u r)) → va_S A H0 H1 locs1 → W p l e R s m args below meth c H1 locs1 (cells + mc) (slots + ms) Q (F0 m (pc + 3) ls (.ref r :: rest))) : W p l e R s m args below meth c H locs cells slots Q (F0 m pc ls st0) := by
  have hPc : va_P D cl w0 H := fz_subP hP isC hC
  have hDc : va_D A w0 := hD.sub isC hnC hC
  have hFc := va_free (wc := w0) hD hS hA isC hC
  refine va_callr (va_runS (rest := rest) Sx (hM H.size) cw ⟨fun a U g mk q => by obtain ⟨q0, q1, qP, qK, qD⟩ := q; exact ⟨q0, q1, qP, va_K.moved (u := U) (U := U.calling g mk a) (Vm.Alike.refl U.vm) qK, qD⟩, fun U hU hW => ⟨rfl, by rw [hU], by rw [hU]; exact hPc, va_K.moved hW.alike hK, hDc.weaken (fun _ _ _ _ => trivial)⟩⟩ rfl hlen hsz hst (lv_room hW) hdg hf) hS (fun q _ h => hFc q h) hFc (fun u r t H1 locs1 ht hvm hw hB hz1 hk1 hS1 => ?_)
  obtain ⟨hw, hP1, hK1, hD1⟩ := hB
  rw [ht] at hP1
  obtain ⟨hP2, hD2⟩ := va_join (wr := wr) hP hD isC isR hC hR hnR hdis hk1 hFc hP1 hD1
  exact kk r u H1 locs1 hw hP2 hD2 hS1
theorem StdI.callN {S : Type} {y : MethodName} {w : List Cond} {fr lo mc ms nL n index maxL : Nat} {own C host : String} {bytes : ByteArray} {ret : Option FieldType} {As : List Value} {b : Nat} {w0 wr : va_W} {post : Int32 → S → Prop} {w1 : S → va_W} {Ts : List Cond} {st0 : List Value} (hM : StdI l y w fr lo mc ms D cl tys (.ref b :: As) w0 post w1) (Sx : CallFix p m c cc nL s args Ts own) (cw : va_CN R s args own index y host bytes maxL ret w { frames := fr, cells := mc, slots := ms, locals := lo } mc ms n ∧ (Cond.instanceMethod y).before args s = true ∧ (Cond.selects C y y).before args s = true) (hK : va_K D cl tys s) (hP : va_P D cl ws H) (hD : va_D A ws) (hS : va_S A H0 H locs) (hA : ∀ q, H0.size ≤ q → A q) (isC isR : List Nat) (hC : isC.map (fun i => ws[i]?) = w0.map some) (hR : isR.map (fun i => ws[i]?) = wr.map some) (hnC : va_nd isC = true) (hnR : va_nd isR = true) (hdis : ∀ i ∈ isR, i ∉ isC) {ci q0 : Nat} {qc : vw_C} {fs : List Value} (hc : cl[ci]? = some qc) (hqC : qc.1 = C) (he : w0[q0]? = some (b, .inr (ci, fs))) (hlen : As.length = n) (hsz : ls.size = nL) (hst : st0 = As.reverse ++ .ref b :: rest) (hW : (rest.map fun v => v.category).sum ≤ 8) (hdg : decode cc pc = .ok (.invokevirtual index, 3)) (hf : cells + mc ≤ R.cells ∧ slots + ms ≤ R.slots)
    (kk : ∀ (r : Int32) (u : S) (H1 : Heap) (locs1 : List Loc), post r u → va_P D cl (wr ++ (w1 u)) H1 → va_D A (wr ++ (w1 u)) → va_S A H0 H1 locs1 → W p l e R s m args below meth c H1 locs1 (cells + mc) (slots + ms) Q (F0 m (pc + 3) ls (.int r :: rest))) : W p l e R s m args below meth c H locs cells slots Q (F0 m pc ls st0) := by
  have hPc : va_P D cl w0 H := fz_subP hP isC hC
  have hDc : va_D A w0 := hD.sub isC hnC hC
  have hFc := va_free (wc := w0) hD hS hA isC hC
  refine va_calli (va_runVN (rest := rest) Sx (hM H.size) cw ⟨fun a U g mk q => by obtain ⟨q0, q1, qP, qK, qD⟩ := q; exact ⟨q0, q1, qP, va_K.moved (u := U) (U := U.calling g mk a) (Vm.Alike.refl U.vm) qK, qD⟩, by obtain ⟨x, h1, h2, h3⟩ := va_recv hK hPc hc he; exact ⟨x, h1, h2, by rw [← hqC]; exact h3⟩, fun U hU hW => ⟨rfl, by rw [hU], by rw [hU]; exact hPc, va_K.moved hW.alike hK, hDc.weaken (fun _ _ _ _ => trivial)⟩⟩ rfl hlen hsz hst (lv_room hW) hdg hf) hS (fun q _ h => hFc q h) hFc (fun r u t H1 locs1 ht hvm hw hB hz1 hk1 hS1 => ?_)
  obtain ⟨hP1, hK1, hD1⟩ := hB
  rw [ht] at hP1
  obtain ⟨hP2, hD2⟩ := va_join (wr := wr) hP hD isC isR hC hR hnR hdis hk1 hFc hP1 hD1
  exact kk r u H1 locs1 hw hP2 hD2 hS1
theorem StdV.callN {S : Type} {y : MethodName} {w : List Cond} {fr lo mc ms nL n index maxL : Nat} {own C host : String} {bytes : ByteArray} {ret : Option FieldType} {As : List Value} {b : Nat} {w0 wr : va_W} {post : S → Prop} {w1 : S → va_W} {Ts : List Cond} {st0 : List Value} (hM : StdV l y w fr lo mc ms D cl tys (.ref b :: As) w0 post w1) (Sx : CallFix p m c cc nL s args Ts own) (cw : va_CN R s args own index y host bytes maxL ret w { frames := fr, cells := mc, slots := ms, locals := lo } mc ms n ∧ (Cond.instanceMethod y).before args s = true ∧ (Cond.selects C y y).before args s = true) (hK : va_K D cl tys s) (hP : va_P D cl ws H) (hD : va_D A ws) (hS : va_S A H0 H locs) (hA : ∀ q, H0.size ≤ q → A q) (isC isR : List Nat) (hC : isC.map (fun i => ws[i]?) = w0.map some) (hR : isR.map (fun i => ws[i]?) = wr.map some) (hnC : va_nd isC = true) (hnR : va_nd isR = true) (hdis : ∀ i ∈ isR, i ∉ isC) {ci q0 : Nat} {qc : vw_C} {fs : List Value} (hc : cl[ci]? = some qc) (hqC : qc.1 = C) (he : w0[q0]? = some (b, .inr (ci, fs))) (hlen : As.length = n) (hsz : ls.size = nL) (hst : st0 = As.reverse ++ .ref b :: rest) (hW : (rest.map fun v => v.category).sum ≤ 8) (hdg : decode cc pc = .ok (.invokevirtual index, 3)) (hf : cells + mc ≤ R.cells ∧ slots + ms ≤ R.slots)
    (kk : ∀ (u : S) (H1 : Heap) (locs1 : List Loc), post u → va_P D cl (wr ++ (w1 u)) H1 → va_D A (wr ++ (w1 u)) → va_S A H0 H1 locs1 → W p l e R s m args below meth c H1 locs1 (cells + mc) (slots + ms) Q (F0 m (pc + 3) ls (rest))) : W p l e R s m args below meth c H locs cells slots Q (F0 m pc ls st0) := by
  have hPc : va_P D cl w0 H := fz_subP hP isC hC
  have hDc : va_D A w0 := hD.sub isC hnC hC
  have hFc := va_free (wc := w0) hD hS hA isC hC
  refine va_callv (va_runVN (rest := rest) Sx (hM H.size) cw ⟨fun a U g mk q => by obtain ⟨q0, q1, qP, qK, qD⟩ := q; exact ⟨q0, q1, qP, va_K.moved (u := U) (U := U.calling g mk a) (Vm.Alike.refl U.vm) qK, qD⟩, by obtain ⟨x, h1, h2, h3⟩ := va_recv hK hPc hc he; exact ⟨x, h1, h2, by rw [← hqC]; exact h3⟩, fun U hU hW => ⟨rfl, by rw [hU], by rw [hU]; exact hPc, va_K.moved hW.alike hK, hDc.weaken (fun _ _ _ _ => trivial)⟩⟩ rfl hlen hsz hst (lv_room hW) hdg hf) hS (fun q _ h => hFc q h) hFc (fun u t H1 locs1 ht hvm hw hB hz1 hk1 hS1 => ?_)
  obtain ⟨hP1, hK1, hD1⟩ := hB
  rw [ht] at hP1
  obtain ⟨hP2, hD2⟩ := va_join (wr := wr) hP hD isC isR hC hR hnR hdis hk1 hFc hP1 hD1
  exact kk u H1 locs1 hw hP2 hD2 hS1
def QryI (l : Launch) (y : MethodName) (w : List Cond) (fr lo : Nat) (D : va_G) (cl : List vw_C) (tys : List (ClassId × FieldType)) (av : List Value) (w0 : va_W) (post : Int32 → Prop) : Prop := Met l y w { frames := fr, cells := 0, slots := 0, locals := lo } (va_Pc av (fun U => va_P D cl w0 U.heap ∧ va_K D cl tys U)) (vp_Si post) 0 0 (fun _ => False)
theorem QryI.mk {y : MethodName} {w w' : List Cond} {fr lo : Nat} {av : List Value} {w0 : va_W} {post : Int32 → Prop} {maxL : Nat} (hy : plainName y.cls = true) (hw : w = Cond.code y cc maxL (some .int) :: w') (hlen : (lg_sl av).length ≤ maxL)
    (body : ∀ (p : Program) (e : Env) (s : State) (m : MethodId) (below : List Frame) (meth : Method) (c : Code) (Z : State → Prop) (ls : Array Slot), p.tables.exec = Jvm.exec → c.code = cc → c.maxLocals = maxL → s.vm.findClass y.cls = some m.cls → (∀ x ∈ w, x.before av.toArray s = true) → va_P D cl w0 s.heap → va_K D cl tys s →
      (∀ (r : Int32) (pc : Nat) (ls : Array Slot), post r → decode cc pc = .ok (.ireturn, 1) → W p l e { frames := fr, cells := 0, slots := 0, locals := lo } s m av.toArray below meth c s.heap [] 0 0 Z (F0 m pc ls [.int r])) →
      lv_has ls maxL (lv_args 0 av) → W p l e { frames := fr, cells := 0, slots := 0, locals := lo } s m av.toArray below meth c s.heap [] 0 0 Z (F0 m 0 ls [])) : QryI l y w fr lo D cl tys av w0 post := by
  refine Met.ofW (cc := cc) (maxL := maxL) (ret := some .int) hy hw ?_
  intro p e s m args below meth c s₁ B hml hv
  obtain ⟨rfl, hP, hK⟩ := hv
  have hr := B.returns
  have hlocks := B.notSynchronized
  have hts := atoms_spec (ws := w) B.pre
  have hown : s.vm.findClass y.cls = some m.cls := findClass_of_methodNamed B.named
  have hl := lv_entry av (n := maxL) hlen
  rw [lg_entry_eq]
  exact body p e s m below meth c (MQ below (vp_Si post) av.toArray s 0 0 (fun _ => False)) _ B.exec B.bytes hml hown hts hP hK
    (fun r pc ls hp hdg => W.iret B.exec B.bytes hr (fun t ht hW => ⟨r, rfl, hp, ht⟩) (fun q h => by cases h) hdg) hl
theorem QryZ.mk {y : MethodName} {w w' : List Cond} {fr lo : Nat} {av : List Value} {w0 : va_W} {post : Int32 → Prop} {maxL : Nat} (hy : plainName y.cls = true) (hw : w = Cond.code y cc maxL (some .boolean) :: w') (hlen : (lg_sl av).length ≤ maxL)
    (body : ∀ (p : Program) (e : Env) (s : State) (m : MethodId) (below : List Frame) (meth : Method) (c : Code) (Z : State → Prop) (ls : Array Slot), p.tables.exec = Jvm.exec → c.code = cc → c.maxLocals = maxL → s.vm.findClass y.cls = some m.cls → (∀ x ∈ w, x.before av.toArray s = true) → va_P D cl w0 s.heap → va_K D cl tys s →
      (∀ (r : Int32) (pc : Nat) (ls : Array Slot), (r = 0 ∨ r = 1) → post r → decode cc pc = .ok (.ireturn, 1) → W p l e { frames := fr, cells := 0, slots := 0, locals := lo } s m av.toArray below meth c s.heap [] 0 0 Z (F0 m pc ls [.int r])) →
      lv_has ls maxL (lv_args 0 av) → W p l e { frames := fr, cells := 0, slots := 0, locals := lo } s m av.toArray below meth c s.heap [] 0 0 Z (F0 m 0 ls [])) : QryI l y w fr lo D cl tys av w0 post := by
  refine Met.ofW (cc := cc) (maxL := maxL) (ret := some .boolean) hy hw ?_
  intro p e s m args below meth c s₁ B hml hv
  obtain ⟨rfl, hP, hK⟩ := hv
  have hr := B.returns
  have hlocks := B.notSynchronized
  have hts := atoms_spec (ws := w) B.pre
  have hown : s.vm.findClass y.cls = some m.cls := findClass_of_methodNamed B.named
  have hl := lv_entry av (n := maxL) hlen
  rw [lg_entry_eq]
  exact body p e s m below meth c (MQ below (vp_Si post) av.toArray s 0 0 (fun _ => False)) _ B.exec B.bytes hml hown hts hP hK
    (fun r pc ls hz hp hdg => W.zret B.exec B.bytes hr (by rcases hz with h | h <;> rw [h] <;> rfl) (fun t ht hW => ⟨r, rfl, hp, ht⟩) (fun q h => by cases h) hdg) hl
def QryL (l : Launch) (y : MethodName) (w : List Cond) (fr lo : Nat) (D : va_G) (cl : List vw_C) (tys : List (ClassId × FieldType)) (av : List Value) (w0 : va_W) (post : Int64 → Prop) : Prop := Met l y w { frames := fr, cells := 0, slots := 0, locals := lo } (va_Pc av (fun U => va_P D cl w0 U.heap ∧ va_K D cl tys U)) (vp_Sl post) 0 0 (fun _ => False)
theorem QryL.mk {y : MethodName} {w w' : List Cond} {fr lo : Nat} {av : List Value} {w0 : va_W} {post : Int64 → Prop} {maxL : Nat} (hy : plainName y.cls = true) (hw : w = Cond.code y cc maxL (some .long) :: w') (hlen : (lg_sl av).length ≤ maxL)
    (body : ∀ (p : Program) (e : Env) (s : State) (m : MethodId) (below : List Frame) (meth : Method) (c : Code) (Z : State → Prop) (ls : Array Slot), p.tables.exec = Jvm.exec → c.code = cc → c.maxLocals = maxL → s.vm.findClass y.cls = some m.cls → (∀ x ∈ w, x.before av.toArray s = true) → va_P D cl w0 s.heap → va_K D cl tys s →
      (∀ (r : Int64) (pc : Nat) (ls : Array Slot), post r → decode cc pc = .ok (.lreturn, 1) → W p l e { frames := fr, cells := 0, slots := 0, locals := lo } s m av.toArray below meth c s.heap [] 0 0 Z (F0 m pc ls [.long r])) →
      lv_has ls maxL (lv_args 0 av) → W p l e { frames := fr, cells := 0, slots := 0, locals := lo } s m av.toArray below meth c s.heap [] 0 0 Z (F0 m 0 ls [])) : QryL l y w fr lo D cl tys av w0 post := by
  refine Met.ofW (cc := cc) (maxL := maxL) (ret := some .long) hy hw ?_
  intro p e s m args below meth c s₁ B hml hv
  obtain ⟨rfl, hP, hK⟩ := hv
  have hr := B.returns
  have hlocks := B.notSynchronized
  have hts := atoms_spec (ws := w) B.pre
  have hown : s.vm.findClass y.cls = some m.cls := findClass_of_methodNamed B.named
  have hl := lv_entry av (n := maxL) hlen
  rw [lg_entry_eq]
  exact body p e s m below meth c (MQ below (vp_Sl post) av.toArray s 0 0 (fun _ => False)) _ B.exec B.bytes hml hown hts hP hK
    (fun r pc ls hp hdg => W.lret B.exec B.bytes hr (fun t ht hW => ⟨r, rfl, hp, ht⟩) (fun q h => by cases h) hdg) hl
theorem QryI.callV {y : MethodName} {w : List Cond} {fr lo nL n index maxL : Nat} {own C : String} {bytes : ByteArray} {ret : Option FieldType} {As : List Value} {b : Nat} {w0 : va_W} {post : Int32 → Prop} {Ts : List Cond} {st0 : List Value} (hM : QryI l y w fr lo D cl tys (.ref b :: As) w0 post) (Sx : CallFix p m c cc nL s args Ts own) (cw : CallW R s args own C index y bytes maxL ret w { frames := fr, cells := 0, slots := 0, locals := lo } 0 0 n) (hK : va_K D cl tys s) (hP : va_P D cl ws H) (isC : List Nat) (hC : isC.map (fun i => ws[i]?) = w0.map some) {ci q0 : Nat} {qc : vw_C} {fs : List Value} (hc : cl[ci]? = some qc) (hqC : qc.1 = C) (he : w0[q0]? = some (b, .inr (ci, fs))) (hlen : As.length = n) (hsz : ls.size = nL) (hst : st0 = As.reverse ++ .ref b :: rest) (hW : (rest.map fun v => v.category).sum ≤ 8) (hdg : decode cc pc = .ok (.invokevirtual index, 3)) (hf : cells ≤ R.cells ∧ slots ≤ R.slots)
    (kk : ∀ r : Int32, post r → W p l e R s m args below meth c H locs cells slots Q (F0 m (pc + 3) ls (.int r :: rest))) : W p l e R s m args below meth c H locs cells slots Q (F0 m pc ls st0) := by
  have hPc : va_P D cl w0 H := fz_subP hP isC hC
  have hr := va_runV (p := p) (e := e) (R := R) (below := below) (meth := meth) (locs := locs) (cells := cells) (slots := slots) (g := F0 m pc ls st0) (rest := rest) Sx hM cw ⟨fun a U g mk q => by obtain ⟨q0, qP, qK⟩ := q; exact ⟨q0, qP, va_K.moved (u := U) (U := U.calling g mk a) (Vm.Alike.refl U.vm) qK⟩, by obtain ⟨x, h1, h2, h3⟩ := va_recv hK hPc hc he; exact ⟨x, h1, h2, by rw [← hqC]; exact h3⟩, fun U hU hW => ⟨rfl, by rw [hU]; exact hPc, va_K.moved hW.alike hK⟩⟩ rfl hlen hsz hst (lv_room hW) hdg hf
  intro T hT X
  obtain ⟨v, st₀, t, T', L, h0, X', hL, e1, e2, ⟨r, hv, hp, hh⟩, st⟩ := hr T hT X
  cases hv
  obtain ⟨t2, a1, b1⟩ := kk r hp T' (by rw [e1, hh, h0]) (Stand.forget X' (fun q h => (hL q h).elim))
  exact ⟨t2, st t2 a1, b1⟩
theorem QryI.callS {y : MethodName} {w : List Cond} {fr lo nL n index maxL : Nat} {own : String} {bytes : ByteArray} {ret : Option FieldType} {As : List Value}  {w0 : va_W} {post : Int32 → Prop} {Ts : List Cond} {st0 : List Value} (hM : QryI l y w fr lo D cl tys As w0 post) (Sx : CallFix p m c cc nL s args Ts own) (cw : CallB R s args own index y bytes maxL ret w { frames := fr, cells := 0, slots := 0, locals := lo } 0 0 n ∧ (Cond.static y).before args s = true) (hK : va_K D cl tys s) (hP : va_P D cl ws H) (isC : List Nat) (hC : isC.map (fun i => ws[i]?) = w0.map some) (hlen : As.length = n) (hsz : ls.size = nL) (hst : st0 = As.reverse ++ rest) (hW : (rest.map fun v => v.category).sum ≤ 8) (hdg : decode cc pc = .ok (.invokestatic index, 3)) (hf : cells ≤ R.cells ∧ slots ≤ R.slots)
    (kk : ∀ r : Int32, post r → W p l e R s m args below meth c H locs cells slots Q (F0 m (pc + 3) ls (.int r :: rest))) : W p l e R s m args below meth c H locs cells slots Q (F0 m pc ls st0) := by
  have hPc : va_P D cl w0 H := fz_subP hP isC hC
  have hr := va_runS (p := p) (e := e) (R := R) (below := below) (meth := meth) (locs := locs) (cells := cells) (slots := slots) (g := F0 m pc ls st0) (rest := rest) Sx hM cw ⟨fun a U g mk q => by obtain ⟨q0, qP, qK⟩ := q; exact ⟨q0, qP, va_K.moved (u := U) (U := U.calling g mk a) (Vm.Alike.refl U.vm) qK⟩, fun U hU hW => ⟨rfl, by rw [hU]; exact hPc, va_K.moved hW.alike hK⟩⟩ rfl hlen hsz hst (lv_room hW) hdg hf
  intro T hT X
  obtain ⟨v, st₀, t, T', L, h0, X', hL, e1, e2, ⟨r, hv, hp, hh⟩, st⟩ := hr T hT X
  cases hv
  obtain ⟨t2, a1, b1⟩ := kk r hp T' (by rw [e1, hh, h0]) (Stand.forget X' (fun q h => (hL q h).elim))
  exact ⟨t2, st t2 a1, b1⟩
theorem QryL.callV {y : MethodName} {w : List Cond} {fr lo nL n index maxL : Nat} {own C : String} {bytes : ByteArray} {ret : Option FieldType} {As : List Value} {b : Nat} {w0 : va_W} {post : Int64 → Prop} {Ts : List Cond} {st0 : List Value} (hM : QryL l y w fr lo D cl tys (.ref b :: As) w0 post) (Sx : CallFix p m c cc nL s args Ts own) (cw : CallW R s args own C index y bytes maxL ret w { frames := fr, cells := 0, slots := 0, locals := lo } 0 0 n) (hK : va_K D cl tys s) (hP : va_P D cl ws H) (isC : List Nat) (hC : isC.map (fun i => ws[i]?) = w0.map some) {ci q0 : Nat} {qc : vw_C} {fs : List Value} (hc : cl[ci]? = some qc) (hqC : qc.1 = C) (he : w0[q0]? = some (b, .inr (ci, fs))) (hlen : As.length = n) (hsz : ls.size = nL) (hst : st0 = As.reverse ++ .ref b :: rest) (hW : (rest.map fun v => v.category).sum ≤ 8) (hdg : decode cc pc = .ok (.invokevirtual index, 3)) (hf : cells ≤ R.cells ∧ slots ≤ R.slots)
    (kk : ∀ r : Int64, post r → W p l e R s m args below meth c H locs cells slots Q (F0 m (pc + 3) ls (.long r :: rest))) : W p l e R s m args below meth c H locs cells slots Q (F0 m pc ls st0) := by
  have hPc : va_P D cl w0 H := fz_subP hP isC hC
  have hr := va_runV (p := p) (e := e) (R := R) (below := below) (meth := meth) (locs := locs) (cells := cells) (slots := slots) (g := F0 m pc ls st0) (rest := rest) Sx hM cw ⟨fun a U g mk q => by obtain ⟨q0, qP, qK⟩ := q; exact ⟨q0, qP, va_K.moved (u := U) (U := U.calling g mk a) (Vm.Alike.refl U.vm) qK⟩, by obtain ⟨x, h1, h2, h3⟩ := va_recv hK hPc hc he; exact ⟨x, h1, h2, by rw [← hqC]; exact h3⟩, fun U hU hW => ⟨rfl, by rw [hU]; exact hPc, va_K.moved hW.alike hK⟩⟩ rfl hlen hsz hst (lv_room hW) hdg hf
  intro T hT X
  obtain ⟨v, st₀, t, T', L, h0, X', hL, e1, e2, ⟨r, hv, hp, hh⟩, st⟩ := hr T hT X
  cases hv
  obtain ⟨t2, a1, b1⟩ := kk r hp T' (by rw [e1, hh, h0]) (Stand.forget X' (fun q h => (hL q h).elim))
  exact ⟨t2, st t2 a1, b1⟩
theorem QryL.callS {y : MethodName} {w : List Cond} {fr lo nL n index maxL : Nat} {own : String} {bytes : ByteArray} {ret : Option FieldType} {As : List Value}  {w0 : va_W} {post : Int64 → Prop} {Ts : List Cond} {st0 : List Value} (hM : QryL l y w fr lo D cl tys As w0 post) (Sx : CallFix p m c cc nL s args Ts own) (cw : CallB R s args own index y bytes maxL ret w { frames := fr, cells := 0, slots := 0, locals := lo } 0 0 n ∧ (Cond.static y).before args s = true) (hK : va_K D cl tys s) (hP : va_P D cl ws H) (isC : List Nat) (hC : isC.map (fun i => ws[i]?) = w0.map some) (hlen : As.length = n) (hsz : ls.size = nL) (hst : st0 = As.reverse ++ rest) (hW : (rest.map fun v => v.category).sum ≤ 8) (hdg : decode cc pc = .ok (.invokestatic index, 3)) (hf : cells ≤ R.cells ∧ slots ≤ R.slots)
    (kk : ∀ r : Int64, post r → W p l e R s m args below meth c H locs cells slots Q (F0 m (pc + 3) ls (.long r :: rest))) : W p l e R s m args below meth c H locs cells slots Q (F0 m pc ls st0) := by
  have hPc : va_P D cl w0 H := fz_subP hP isC hC
  have hr := va_runS (p := p) (e := e) (R := R) (below := below) (meth := meth) (locs := locs) (cells := cells) (slots := slots) (g := F0 m pc ls st0) (rest := rest) Sx hM cw ⟨fun a U g mk q => by obtain ⟨q0, qP, qK⟩ := q; exact ⟨q0, qP, va_K.moved (u := U) (U := U.calling g mk a) (Vm.Alike.refl U.vm) qK⟩, fun U hU hW => ⟨rfl, by rw [hU]; exact hPc, va_K.moved hW.alike hK⟩⟩ rfl hlen hsz hst (lv_room hW) hdg hf
  intro T hT X
  obtain ⟨v, st₀, t, T', L, h0, X', hL, e1, e2, ⟨r, hv, hp, hh⟩, st⟩ := hr T hT X
  cases hv
  obtain ⟨t2, a1, b1⟩ := kk r hp T' (by rw [e1, hh, h0]) (Stand.forget X' (fun q h => (hL q h).elim))
  exact ⟨t2, st t2 a1, b1⟩
theorem QryI.callN {y : MethodName} {w : List Cond} {fr lo nL n index maxL : Nat} {own C host : String} {bytes : ByteArray} {ret : Option FieldType} {As : List Value} {b : Nat} {w0 : va_W} {post : Int32 → Prop} {Ts : List Cond} {st0 : List Value} (hM : QryI l y w fr lo D cl tys (.ref b :: As) w0 post) (Sx : CallFix p m c cc nL s args Ts own) (cw : va_CN R s args own index y host bytes maxL ret w { frames := fr, cells := 0, slots := 0, locals := lo } 0 0 n ∧ (Cond.instanceMethod y).before args s = true ∧ (Cond.selects C y y).before args s = true) (hK : va_K D cl tys s) (hP : va_P D cl ws H) (isC : List Nat) (hC : isC.map (fun i => ws[i]?) = w0.map some) {ci q0 : Nat} {qc : vw_C} {fs : List Value} (hc : cl[ci]? = some qc) (hqC : qc.1 = C) (he : w0[q0]? = some (b, .inr (ci, fs))) (hlen : As.length = n) (hsz : ls.size = nL) (hst : st0 = As.reverse ++ .ref b :: rest) (hW : (rest.map fun v => v.category).sum ≤ 8) (hdg : decode cc pc = .ok (.invokevirtual index, 3)) (hf : cells ≤ R.cells ∧ slots ≤ R.slots)
    (kk : ∀ r : Int32, post r → W p l e R s m args below meth c H locs cells slots Q (F0 m (pc + 3) ls (.int r :: rest))) : W p l e R s m args below meth c H locs cells slots Q (F0 m pc ls st0) := by
  have hPc : va_P D cl w0 H := fz_subP hP isC hC
  have hr := va_runVN (p := p) (e := e) (R := R) (below := below) (meth := meth) (locs := locs) (cells := cells) (slots := slots) (g := F0 m pc ls st0) (rest := rest) Sx hM cw ⟨fun a U g mk q => by obtain ⟨q0, qP, qK⟩ := q; exact ⟨q0, qP, va_K.moved (u := U) (U := U.calling g mk a) (Vm.Alike.refl U.vm) qK⟩, by obtain ⟨x, h1, h2, h3⟩ := va_recv hK hPc hc he; exact ⟨x, h1, h2, by rw [← hqC]; exact h3⟩, fun U hU hW => ⟨rfl, by rw [hU]; exact hPc, va_K.moved hW.alike hK⟩⟩ rfl hlen hsz hst (lv_room hW) hdg hf
  intro T hT X
  obtain ⟨v, st₀, t, T', L, h0, X', hL, e1, e2, ⟨r, hv, hp, hh⟩, st⟩ := hr T hT X
  cases hv
  obtain ⟨t2, a1, b1⟩ := kk r hp T' (by rw [e1, hh, h0]) (Stand.forget X' (fun q h => (hL q h).elim))
  exact ⟨t2, st t2 a1, b1⟩
theorem QryI.callT {y : MethodName} {w : List Cond} {fr lo nL n index maxL : Nat} {own host : String} {bytes : ByteArray} {ret : Option FieldType} {As : List Value}  {w0 : va_W} {post : Int32 → Prop} {Ts : List Cond} {st0 : List Value} (hM : QryI l y w fr lo D cl tys As w0 post) (Sx : CallFix p m c cc nL s args Ts own) (cw : va_CN R s args own index y host bytes maxL ret w { frames := fr, cells := 0, slots := 0, locals := lo } 0 0 n ∧ (Cond.static y).before args s = true ∧ True) (hK : va_K D cl tys s) (hP : va_P D cl ws H) (isC : List Nat) (hC : isC.map (fun i => ws[i]?) = w0.map some) (hlen : As.length = n) (hsz : ls.size = nL) (hst : st0 = As.reverse ++ rest) (hW : (rest.map fun v => v.category).sum ≤ 8) (hdg : decode cc pc = .ok (.invokestatic index, 3)) (hf : cells ≤ R.cells ∧ slots ≤ R.slots)
    (kk : ∀ r : Int32, post r → W p l e R s m args below meth c H locs cells slots Q (F0 m (pc + 3) ls (.int r :: rest))) : W p l e R s m args below meth c H locs cells slots Q (F0 m pc ls st0) := by
  have hPc : va_P D cl w0 H := fz_subP hP isC hC
  have hr := va_runSN (p := p) (e := e) (R := R) (below := below) (meth := meth) (locs := locs) (cells := cells) (slots := slots) (g := F0 m pc ls st0) (rest := rest) Sx hM cw ⟨fun a U g mk q => by obtain ⟨q0, qP, qK⟩ := q; exact ⟨q0, qP, va_K.moved (u := U) (U := U.calling g mk a) (Vm.Alike.refl U.vm) qK⟩, fun U hU hW => ⟨rfl, by rw [hU]; exact hPc, va_K.moved hW.alike hK⟩⟩ rfl hlen hsz hst (lv_room hW) hdg hf
  intro T hT X
  obtain ⟨v, st₀, t, T', L, h0, X', hL, e1, e2, ⟨r, hv, hp, hh⟩, st⟩ := hr T hT X
  cases hv
  obtain ⟨t2, a1, b1⟩ := kk r hp T' (by rw [e1, hh, h0]) (Stand.forget X' (fun q h => (hL q h).elim))
  exact ⟨t2, st t2 a1, b1⟩
/-! a call's words, all out of WALL -/
theorem fz_good {y : MethodName} {bytes : ByteArray} {maxL : Nat} {ret : Option FieldType} (h : Cond.code y bytes maxL ret ∈ WALL) : GoodIn WALL (wd y bytes maxL ret) := fun w hw => by
  rcases List.mem_cons.mp hw with q | q
  · rw [q]; exact ⟨h, WALL_good h⟩
  · exact ⟨q, WALL_good q⟩
theorem fz_cwV {own C : String} {index : Nat} {y : MethodName} {bytes : ByteArray} {maxL mc ms : Nat} {ret : Option FieldType} {rm : Room} (n : Nat) (hw : ∀ x ∈ WALL, x.before args s = true) (hcode : Cond.code y bytes maxL ret ∈ WALL) (hl : Cond.methodLink own index y ∈ WALL) (hi : Cond.instanceMethod y ∈ WALL) (hs : Cond.selects C y y ∈ WALL) (hini : Cond.initialized C ∈ WALL) (hrc : rm.cells = mc) (hrs : rm.slots = ms) (hd : y.cls = C ∧ y.cls ≠ "java/lang/invoke/MethodHandle" ∧ y.cls ≠ "java/lang/invoke/VarHandle" ∧ (parseMethodDescriptor y.desc).map (fun d => d.parameters.length) = some n) (hR : rm.frames + 1 ≤ R.frames ∧ 8 + (maxL + 11) + rm.locals ≤ R.locals) : CallW R s args own C index y bytes maxL ret (wd y bytes maxL ret) rm mc ms n := by
  obtain ⟨hC, hd⟩ := hd
  subst hC
  exact ⟨callB_of n hw (fz_good hcode) rfl hrc hrs (hw _ hini) (hw _ hl) hd hR, hw _ hi, hw _ hs⟩
theorem fz_cwS {own : String} {index : Nat} {y : MethodName} {bytes : ByteArray} {maxL mc ms : Nat} {ret : Option FieldType} {rm : Room} (n : Nat) (hw : ∀ x ∈ WALL, x.before args s = true) (hcode : Cond.code y bytes maxL ret ∈ WALL) (hl : Cond.methodLink own index y ∈ WALL) (hi : Cond.static y ∈ WALL) (hini : Cond.initialized y.cls ∈ WALL) (hrc : rm.cells = mc) (hrs : rm.slots = ms) (hd : y.cls ≠ "java/lang/invoke/MethodHandle" ∧ y.cls ≠ "java/lang/invoke/VarHandle" ∧ (parseMethodDescriptor y.desc).map (fun d => d.parameters.length) = some n) (hR : rm.frames + 1 ≤ R.frames ∧ 8 + (maxL + 11) + rm.locals ≤ R.locals) : CallB R s args own index y bytes maxL ret (wd y bytes maxL ret) rm mc ms n ∧ (Cond.static y).before args s = true :=
  ⟨callB_of n hw (fz_good hcode) rfl hrc hrs (hw _ hini) (hw _ hl) hd hR, hw _ hi⟩
end Std
