abbrev nestT : Cond := .methodLinkNest R_F 9 y_T_init R_F
abbrev nestS : Cond := .methodLinkNest R_F 18 y_S_init R_F
theorem nestT_in : nestT ∈ lw_tbl := List.mem_append_right _ (List.mem_of_getElem? (show tables_1[18]? = some nestT by decide +kernel))
theorem nestS_in : nestS ∈ lw_tbl := List.mem_append_right _ (List.mem_of_getElem? (show tables_1[50]? = some nestS by decide +kernel))
section Ini
variable {p : Program} {l : Launch} {e : Env} {R : Room} {s : State} {m : MethodId} {args : Array Value} {below : List Frame} {meth : Method} {c : Code} {H H0 : Heap} {locs : List Loc} {cells slots : Nat} {Q : State → Prop} {cc : ByteArray} {pc : Nat} {ls : Array Slot} {rest : List Value} {D : va_G} {cl : List vw_C} {tys : List (ClassId × FieldType)} {ws : va_W} {A : Nat → Prop} {a : Nat}
theorem fz_cwI {own : String} {index : Nat} {y : MethodName} {bytes : ByteArray} {maxL mc ms : Nat} {rm : Room} (n : Nat) (hw : ∀ x ∈ WALL, x.before args s = true) (hcode : Cond.code y bytes maxL none ∈ WALL) (hl : Cond.methodLink own index y ∈ WALL) (hi : Cond.instanceMethod y ∈ WALL) (hini : Cond.initialized y.cls ∈ WALL) (hrc : rm.cells = mc) (hrs : rm.slots = ms) (hn : y.name = "<init>") (hd : y.cls ≠ "java/lang/invoke/MethodHandle" ∧ y.cls ≠ "java/lang/invoke/VarHandle" ∧ (parseMethodDescriptor y.desc).map (fun d => d.parameters.length) = some n) (hR : rm.frames + 1 ≤ R.frames ∧ 8 + (maxL + 11) + rm.locals ≤ R.locals) : CallB R s args own index y bytes maxL none (wd y bytes maxL none) rm mc ms n ∧ y.name = "<init>" ∧ (Cond.instanceMethod y).before args s = true :=
  ⟨callB_of n hw (fz_good hcode) rfl hrc hrs (hw _ hini) (hw _ hl) hd hR, hn, hw _ hi⟩
theorem fz_cwJ {own host : String} {index : Nat} {y : MethodName} {bytes : ByteArray} {maxL mc ms : Nat} {rm : Room} (n : Nat) (hw : ∀ x ∈ WALL, x.before args s = true) (hcode : Cond.code y bytes maxL none ∈ WALL) (hl : va_Nw (.methodLinkNest own index y host) s) (hi : Cond.instanceMethod y ∈ WALL) (hini : Cond.initialized y.cls ∈ WALL) (hrc : rm.cells = mc) (hrs : rm.slots = ms) (hn : y.name = "<init>") (hd : y.cls ≠ "java/lang/invoke/MethodHandle" ∧ y.cls ≠ "java/lang/invoke/VarHandle" ∧ (parseMethodDescriptor y.desc).map (fun d => d.parameters.length) = some n) (hR : rm.frames + 1 ≤ R.frames ∧ 8 + (maxL + 11) + rm.locals ≤ R.locals) : va_CN R s args own index y host bytes maxL none (wd y bytes maxL none) rm mc ms n ∧ y.name = "<init>" ∧ (Cond.instanceMethod y).before args s = true :=
  ⟨va_cnB n hw (fz_good hcode) rfl hrc hrs hl (hw _ hini) hd hR, hn, hw _ hi⟩
def StdX {S : Type} (l : Launch) (y : MethodName) (w : List Cond) (fr lo mc ms : Nat) (D : va_G) (cl : List vw_C) (tys : List (ClassId × FieldType)) (av : List Value) (w0 : va_W) (post : S → Prop) (w1 : S → va_W) : Prop := ∀ sz : Nat, Met l y w { frames := fr, cells := mc, slots := ms, locals := lo } (va_Pc av (fun U => U.heap.size = sz ∧ va_P D cl w0 U.heap ∧ va_K D cl tys U ∧ va_D (fun _ => True) w0 ∧ va_Nw nestT U ∧ va_Nw nestS U)) (va_Qv post (fun u t => va_P D cl (w1 u) t.heap ∧ va_K D cl tys t ∧ va_D (va_A w0 sz) (w1 u)) (va_A w0 sz)) mc ms (va_A w0 sz)
theorem StdX.mk {S : Type} {y : MethodName} {w w' : List Cond} {fr lo mc ms : Nat} {av : List Value} {w0 : va_W} {post : S → Prop} {w1 : S → va_W} {maxL : Nat} (hy : plainName y.cls = true) (hw : w = Cond.code y cc maxL (none) :: w') (hlen : (lg_sl av).length ≤ maxL)
    (body : ∀ (p : Program) (e : Env) (s : State) (m : MethodId) (below : List Frame) (meth : Method) (c : Code) (A : Nat → Prop) (Z : State → Prop) (ls : Array Slot), p.tables.exec = Jvm.exec → c.code = cc → c.maxLocals = maxL → s.vm.findClass y.cls = some m.cls → (∀ x ∈ w, x.before av.toArray s = true) → meth.name = y.name → va_P D cl w0 s.heap → va_K D cl tys s → va_D A w0 → (∀ q, s.heap.size ≤ q → A q) → va_S A s.heap s.heap [] → va_Nw nestT s → va_Nw nestS s →
      (∀ (u : S) (H : Heap) (locs : List Loc) (pc : Nat) (ls : Array Slot), post u → va_P D cl (w1 u) H → va_D A (w1 u) → va_S A s.heap H locs → decode cc pc = .ok (.return_, 1) → W p l e { frames := fr, cells := mc, slots := ms, locals := lo } s m av.toArray below meth c H locs mc ms Z (F0 m pc ls [])) →
      lv_has ls maxL (lv_args 0 av) → W p l e { frames := fr, cells := mc, slots := ms, locals := lo } s m av.toArray below meth c s.heap [] 0 0 Z (F0 m 0 ls [])) : StdX l y w fr lo mc ms D cl tys av w0 post w1 := by
  intro sz
  refine Met.ofW (cc := cc) (maxL := maxL) (ret := (none)) hy hw ?_
  intro p e s m args below meth c s₁ B hml hv
  obtain ⟨rfl, hsz, hP, hK, hD0, hn1, hn2⟩ := hv
  subst hsz
  have hr := B.returns
  have hlocks := B.notSynchronized
  have hts := atoms_spec (ws := w) B.pre
  have hown : s.vm.findClass y.cls = some m.cls := findClass_of_methodNamed B.named
  have hin : meth.name = y.name := (name_of_methodNamed B.named B.method).1
  have hl := lv_entry av (n := maxL) hlen
  rw [lg_entry_eq]
  exact body p e s m below meth c (va_A w0 s.heap.size) (MQ below (va_Qv post (fun u t => va_P D cl (w1 u) t.heap ∧ va_K D cl tys t ∧ va_D (va_A w0 s.heap.size) (w1 u)) (va_A w0 s.heap.size)) av.toArray s mc ms (va_A w0 s.heap.size)) _ B.exec B.bytes hml hown hts hin hP hK hD0.self (fun q h => Or.inr h) va_S.rf hn1 hn2
    (fun u H locs pc ls hp hP1 hD1 hS1 hdg => W.vret B.exec B.bytes hr (fun t ht hW => ⟨⟨u, rfl, hp, by rw [ht]; exact hP1, va_K.moved hW.alike hK, hD1⟩, hS1.F ht⟩) hS1.2.2 hdg) hl
theorem StdX.callI {S : Type} {y : MethodName} {w : List Cond} {fr lo mc ms nL n index maxL : Nat} {own : String} {bytes : ByteArray} {As : List Value} {b : Nat} {w0 wr : va_W} {post : S → Prop} {w1 : S → va_W} {Ts : List Cond} {st0 : List Value} (hM : StdX l y w fr lo mc ms D cl tys (.ref b :: As) w0 post w1) (Sx : CallFix p m c cc nL s args Ts own) (cw : CallB R s args own index y bytes maxL none w { frames := fr, cells := mc, slots := ms, locals := lo } mc ms n ∧ y.name = "<init>" ∧ (Cond.instanceMethod y).before args s = true) (hK : va_K D cl tys s) (hP : va_P D cl ws H) (hD : va_D A ws) (hS : va_S A H0 H locs) (hA : ∀ q, H0.size ≤ q → A q) (isC isR : List Nat) (hC : isC.map (fun i => ws[i]?) = w0.map some) (hR : isR.map (fun i => ws[i]?) = wr.map some) (hnC : va_nd isC = true) (hnR : va_nd isR = true) (hdis : ∀ i ∈ isR, i ∉ isC) (hlen : As.length = n) (hsz : ls.size = nL) (hst : st0 = As.reverse ++ .ref b :: rest) (hW : (rest.map fun v => v.category).sum ≤ 8) (hdg : decode cc pc = .ok (.invokespecial index, 3)) (hn1 : va_Nw nestT s) (hn2 : va_Nw nestS s) (hf : cells + mc ≤ R.cells ∧ slots + ms ≤ R.slots)
    (kk : ∀ (u : S) (H1 : Heap) (locs1 : List Loc), post u → va_P D cl (wr ++ (w1 u)) H1 → va_D A (wr ++ (w1 u)) → va_S A H0 H1 locs1 → W p l e R s m args below meth c H1 locs1 (cells + mc) (slots + ms) Q (F0 m (pc + 3) ls (rest))) : W p l e R s m args below meth c H locs cells slots Q (F0 m pc ls st0) := by
  have hPc : va_P D cl w0 H := fz_subP hP isC hC
  have hDc : va_D A w0 := hD.sub isC hnC hC
  have hFc := va_free (wc := w0) hD hS hA isC hC
  refine va_callv (va_runI (rest := rest) Sx (hM H.size) cw ⟨fun a U g mk q => by obtain ⟨q0, q1, qP, qK, qD, n1, n2⟩ := q; exact ⟨q0, q1, qP, va_K.moved (u := U) (U := U.calling g mk a) (Vm.Alike.refl U.vm) qK, qD, va_Nw.same rfl rfl n1, va_Nw.same rfl rfl n2⟩, fun U hU hW => ⟨rfl, by rw [hU], by rw [hU]; exact hPc, va_K.moved hW.alike hK, hDc.weaken (fun _ _ _ _ => trivial), va_Nw.warmM hW hn1, va_Nw.warmM hW hn2⟩⟩ rfl hlen hsz hst (lv_room hW) hdg hf) hS (fun q _ h => hFc q h) hFc (fun u t H1 locs1 ht hvm hw hB hz1 hk1 hS1 => ?_)
  obtain ⟨hP1, hK1, hD1⟩ := hB
  rw [ht] at hP1
  obtain ⟨hP2, hD2⟩ := va_join (wr := wr) hP hD isC isR hC hR hnR hdis hk1 hFc hP1 hD1
  exact kk u H1 locs1 hw hP2 hD2 hS1
end Ini
