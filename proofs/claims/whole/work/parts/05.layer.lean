/-! THE LAYER: one list of words for all methods, contexts, contracts, rows over naturals -/
def xt_T : List Cond := lw_tbl.filter goodWord
theorem xt_in {w : Cond} (h : w ∈ lw_tbl) (hg : goodWord w = true) : w ∈ xt_T := List.mem_filter.mpr ⟨h, hg⟩
abbrev xt_R (d : Nat) : Room := { frames := d, cells := 0, slots := 0, locals := 40 * d }
abbrev xt_ty (cI cL : ClassId) : List (ClassId × FieldType) := [(cI, .int), (cL, .long)]
/-- what a method knows of the machine all along -/
def xt_C (p : Program) (s : State) (m : MethodId) (args : Array Value) (c : Code) (cc : ByteArray) (nL : Nat) (own : String) (D : va_G) (cI cL : ClassId) : Prop :=
  p.tables.exec = Jvm.exec ∧ c.code = cc ∧ c.maxLocals = nL ∧ s.vm.findClass own = some m.cls ∧ (∀ w ∈ xt_T, w.before args s = true) ∧ va_K D vwCl (xt_ty cI cL) s
/-- the world as it is now -/
def xt_W (D : va_G) (A : Nat → Prop) (H0 : Heap) (ws : va_W) (H : Heap) (locs : List Loc) : Prop := va_P D vwCl ws H ∧ va_D A ws ∧ va_S A H0 H locs
def xt_P (D : va_G) (cI cL : ClassId) (av : List Value) (ws : va_W) (sz : Nat) : Array Value → State → Prop :=
  va_Pc av (fun U => U.heap.size = sz ∧ va_P D vwCl ws U.heap ∧ va_K D vwCl (xt_ty cI cL) U ∧ va_D (fun _ => True) ws)
def xt_B (D : va_G) (cI cL : ClassId) (ws : va_W) (sz : Nat) {U : Type} (ws' : U → va_W) : U → State → Prop :=
  fun u t => va_P D vwCl (ws' u) t.heap ∧ va_K D vwCl (xt_ty cI cL) t ∧ va_D (va_A ws sz) (ws' u)
def xt_Qi (D : va_G) (cI cL : ClassId) (ws : va_W) {U : Type} (post : Int32 → U → Prop) (ws' : U → va_W) (sz : Nat) : Array Value → State → Outcome → State → Prop := va_Qi post (xt_B D cI cL ws sz ws') (va_A ws sz)
def xt_Ql (D : va_G) (cI cL : ClassId) (ws : va_W) {U : Type} (post : Int64 → U → Prop) (ws' : U → va_W) (sz : Nat) : Array Value → State → Outcome → State → Prop := va_Ql post (xt_B D cI cL ws sz ws') (va_A ws sz)
def xt_Qv (D : va_G) (cI cL : ClassId) (ws : va_W) {U : Type} (post : U → Prop) (ws' : U → va_W) (sz : Nat) : Array Value → State → Outcome → State → Prop := va_Qv post (xt_B D cI cL ws sz ws') (va_A ws sz)
/-- a contract: method y, its bytes, its locals, its answer's type, how deep it calls; from the world ws, with the arguments av -/
def xt_M (l : Launch) (y : MethodName) (b : ByteArray) (nL : Nat) (ret : Option FieldType) (d : Nat) (D : va_G) (cI cL : ClassId) (av : List Value) (ws : va_W) (Qc : Nat → Array Value → State → Outcome → State → Prop) : Prop :=
  ∀ sz : Nat, Met l y (.code y b nL ret :: xt_T) (xt_R d) (xt_P D cI cL av ws sz) (Qc sz) 0 0 (va_A ws sz)
theorem xt_good {y : MethodName} {b : ByteArray} {nL : Nat} {ret : Option FieldType} (h : Cond.code y b nL ret ∈ xt_T) : GoodIn xt_T (.code y b nL ret :: xt_T) := by
  intro w hw
  have hm : w ∈ xt_T := by
    rcases List.mem_cons.mp hw with h1 | h1
    · rw [h1]; exact h
    · exact h1
  exact ⟨hm, good_of_word (List.mem_filter.mp hm).2⟩
/-- how a method ends -/
def xt_E (meth : Method) (ret : Option FieldType) (A : Nat → Prop) (ws0 : va_W) (s : State) (below : List Frame) (args : Array Value) (Q : State → Prop) (Qc : Nat → Array Value → State → Outcome → State → Prop) : Prop :=
  meth.sig.returnType = ret ∧ meth.locks = false ∧ A = va_A ws0 s.heap.size ∧ Q = MQ below (Qc s.heap.size) args s 0 0 A
theorem xt_start {l : Launch} {y : MethodName} {b : ByteArray} {nL : Nat} {ret : Option FieldType} {d : Nat} {D : va_G} {cI cL : ClassId} {av : List Value} {ws : va_W} {Qc : Nat → Array Value → State → Outcome → State → Prop} {own : String}
    (hyc : y.cls = own) (hy : plainName own = true) (hlen : (lg_sl av).length ≤ nL)
    (body : ∀ (p : Program) (e : Env) (s : State) (m : MethodId) (args : Array Value) (below : List Frame) (meth : Method) (c : Code) (A : Nat → Prop) (Q : State → Prop) (ls : Array Slot), xt_C p s m args c b nL own D cI cL → xt_E meth ret A ws s below args Q Qc → (∀ q, s.heap.size ≤ q → A q) → lv_has ls nL (lv_args 0 av) → xt_W D A s.heap ws s.heap [] →
      W p l e (xt_R d) s m args below meth c s.heap [] 0 0 Q (F0 m 0 ls [])) : xt_M l y b nL ret d D cI cL av ws Qc := by
  subst hyc
  intro sz
  refine Met.ofW (cc := b) (maxL := nL) (ret := ret) hy rfl ?_
  intro p e s m args below meth c s₁ B hml hv
  obtain ⟨rfl, hsz, hP, hK, hD0⟩ := hv
  have hts := atoms_spec (ws := .code y b nL ret :: xt_T) B.pre
  have hown : s.vm.findClass y.cls = some m.cls := findClass_of_methodNamed B.named
  subst hsz
  have hD := hD0.self (sz := s.heap.size)
  have hl := lv_entry av (n := nL) hlen
  rw [lg_entry_eq]
  exact body p e s m av.toArray below meth c (va_A ws s.heap.size) _ _ ⟨B.exec, B.bytes, hml, hown, fun w h => hts w (List.mem_cons_of_mem _ h), hK⟩ ⟨B.returns, B.notSynchronized, rfl, rfl⟩ (fun q h => Or.inr h) hl ⟨hP, hD, va_S.rf⟩
/-- what a call needs of the tables -/
def xt_cv (own : String) (idx : Nat) (y : MethodName) (b : ByteArray) (nL : Nat) (ret : Option FieldType) (n : Nat) : Prop :=
  Cond.methodLink own idx y ∈ xt_T ∧ Cond.instanceMethod y ∈ xt_T ∧ Cond.selects y.cls y y ∈ xt_T ∧ Cond.initialized y.cls ∈ xt_T ∧ Cond.code y b nL ret ∈ xt_T ∧ y.cls ≠ "java/lang/invoke/MethodHandle" ∧ y.cls ≠ "java/lang/invoke/VarHandle" ∧ (parseMethodDescriptor y.desc).map (fun d => d.parameters.length) = some n
def xt_cs (own : String) (idx : Nat) (y : MethodName) (b : ByteArray) (nL : Nat) (ret : Option FieldType) (n : Nat) : Prop :=
  Cond.methodLink own idx y ∈ xt_T ∧ Cond.static y ∈ xt_T ∧ Cond.initialized y.cls ∈ xt_T ∧ Cond.code y b nL ret ∈ xt_T ∧ y.cls ≠ "java/lang/invoke/MethodHandle" ∧ y.cls ≠ "java/lang/invoke/VarHandle" ∧ (parseMethodDescriptor y.desc).map (fun d => d.parameters.length) = some n
section XT
variable {p : Program} {l : Launch} {e : Env} {R : Room} {s : State} {m : MethodId} {args : Array Value} {below : List Frame} {meth : Method} {c : Code} {H : Heap} {locs : List Loc} {cells slots : Nat} {Q : State → Prop}
variable {cc : ByteArray} {pc nL : Nat} {ls : Array Slot} {rest st0 : List Value} {own : String} {D : va_G} {cI cL : ClassId} {A : Nat → Prop} {H0 : Heap} {ws : va_W} {a : Nat}
theorem xt_C.K (C : xt_C p s m args c cc nL own D cI cL) : va_K D vwCl (xt_ty cI cL) s := C.2.2.2.2.2
theorem xt_C.t (C : xt_C p s m args c cc nL own D cI cL) {w : Cond} (h : w ∈ xt_T) : w.before args s = true := C.2.2.2.2.1 w h
theorem xt_C.o (C : xt_C p s m args c cc nL own D cI cL) : s.vm.findClass own = some m.cls := C.2.2.2.1
theorem xt_iret {U : Type} {post : Int32 → U → Prop} {ws' : U → va_W} {ws0 : va_W} (C : xt_C p s m args c cc nL own D cI cL) (hE : xt_E meth (some .int) A ws0 s below args Q (xt_Qi D cI cL ws0 post ws')) (u : U) {r : Int32} (w : xt_W D A s.heap (ws' u) H locs) (hp : post r u) (hdg : decode cc pc = .ok (.ireturn, 1)) :
    W p l e R s m args below meth c H locs 0 0 Q (F0 m pc ls [.int r]) := by
  obtain ⟨hr, hk, hA, hQ⟩ := hE
  subst hA
  subst hQ
  exact W.iret C.1 C.2.1 hr (fun t ht hW => ⟨⟨r, u, rfl, hp, by rw [ht]; exact w.1, va_K.moved hW.alike C.K, w.2.1⟩, w.2.2.F ht⟩) w.2.2.2.2 hdg hk
theorem xt_zret {U : Type} {post : Int32 → U → Prop} {ws' : U → va_W} {ws0 : va_W} (C : xt_C p s m args c cc nL own D cI cL) (hE : xt_E meth (some .boolean) A ws0 s below args Q (xt_Qi D cI cL ws0 post ws')) (u : U) {r : Int32} (w : xt_W D A s.heap (ws' u) H locs) (hz : r = 0 ∨ r = 1) (hp : post r u) (hdg : decode cc pc = .ok (.ireturn, 1)) :
    W p l e R s m args below meth c H locs 0 0 Q (F0 m pc ls [.int r]) := by
  obtain ⟨hr, hk, hA, hQ⟩ := hE
  subst hA
  subst hQ
  exact W.zret C.1 C.2.1 hr (by rcases hz with h | h <;> subst h <;> rfl) (fun t ht hW => ⟨⟨r, u, rfl, hp, by rw [ht]; exact w.1, va_K.moved hW.alike C.K, w.2.1⟩, w.2.2.F ht⟩) w.2.2.2.2 hdg hk
theorem xt_lret {U : Type} {post : Int64 → U → Prop} {ws' : U → va_W} {ws0 : va_W} (C : xt_C p s m args c cc nL own D cI cL) (hE : xt_E meth (some .long) A ws0 s below args Q (xt_Ql D cI cL ws0 post ws')) (u : U) {r : Int64} (w : xt_W D A s.heap (ws' u) H locs) (hp : post r u) (hdg : decode cc pc = .ok (.lreturn, 1)) :
    W p l e R s m args below meth c H locs 0 0 Q (F0 m pc ls [.long r]) := by
  obtain ⟨hr, hk, hA, hQ⟩ := hE
  subst hA
  subst hQ
  exact W.lret C.1 C.2.1 hr (fun t ht hW => ⟨⟨r, u, rfl, hp, by rw [ht]; exact w.1, va_K.moved hW.alike C.K, w.2.1⟩, w.2.2.F ht⟩) w.2.2.2.2 hdg hk
theorem xt_vret {U : Type} {post : U → Prop} {ws' : U → va_W} {ws0 : va_W} (C : xt_C p s m args c cc nL own D cI cL) (hE : xt_E meth none A ws0 s below args Q (xt_Qv D cI cL ws0 post ws')) (u : U) (w : xt_W D A s.heap (ws' u) H locs) (hp : post u) (hdg : decode cc pc = .ok (.return_, 1)) :
    W p l e R s m args below meth c H locs 0 0 Q (F0 m pc ls []) := by
  obtain ⟨hr, hk, hA, hQ⟩ := hE
  subst hA
  subst hQ
  exact W.vret C.1 C.2.1 hr (fun t ht hW => ⟨⟨u, rfl, hp, by rw [ht]; exact w.1, va_K.moved hW.alike C.K, w.2.1⟩, w.2.2.F ht⟩) w.2.2.2.2 hdg hk
/-! calls on the whole world -/
theorem xt_blind {av : List Value} {sz : Nat} : FrameBlind (xt_P D cI cL av ws sz) := fun a U g mk q => by
  obtain ⟨q0, q1, qP, qK, qD⟩ := q
  exact ⟨q0, q1, qP, va_K.moved (u := U) (U := U.calling g mk a) (Vm.Alike.refl U.vm) qK, qD⟩
theorem xt_pre {As : List Value} (K : va_K D vwCl (xt_ty cI cL) s) (hP : va_P D vwCl ws H) (hD : va_D A ws) (U : State) (hU : U.heap = H) (hW : s.WarmedH U.vm) : xt_P D cI cL As ws H.size As.toArray U :=
  ⟨rfl, by rw [hU], by rw [hU]; exact hP, va_K.moved hW.alike K, hD.weaken (fun _ _ _ _ => trivial)⟩
theorem xt_runV {Qc : Nat → Array Value → State → Outcome → State → Prop} {y : MethodName} {b : ByteArray} {nL' : Nat} {ret : Option FieldType} {d' n idx ci N : Nat} {As : List Value} {fs : List Value} {T : u_T} {wc : va_W}
    (C : xt_C p s m args c cc nL own D cI cL) (hP : va_P D vwCl wc H) (hD : va_D A wc) (cw : xt_cv own idx y b nL' ret n) (M : xt_M l y b nL' ret d' D cI cL (.ref a :: As) wc Qc) (he : wc[0]? = some (a, .inr (ci, fs))) (hc : vwCl[ci]? = some (y.cls, T, N)) (hn : As.length = n) (hl : ls.size = nL) (hst : st0 = As.reverse ++ .ref a :: rest) (hrm : (rest.map fun v => v.category).sum ≤ 8) (hR : d' + 1 ≤ R.frames ∧ 8 + (nL' + 11) + 40 * d' ≤ R.locals) (hf : cells ≤ R.cells ∧ slots ≤ R.slots) (hdg : decode cc pc = .ok (.invokevirtual idx, 3)) :
    va_Run p l e R s m args below meth c H locs cells slots 0 0 (F0 m pc ls st0) rest (Qc H.size (Value.ref a :: As).toArray) (va_A wc H.size) :=
  va_runV (nL := nL) (Ts := xt_T) (own := own) (C := y.cls) (As := As) ⟨C.1, C.2.1, C.2.2.1, C.2.2.2.1, C.2.2.2.2.1⟩ (M H.size)
    ⟨callB_of n C.2.2.2.2.1 (xt_good cw.2.2.2.2.1) rfl rfl rfl (C.t cw.2.2.2.1) (C.t cw.1) cw.2.2.2.2.2 hR, C.t cw.2.1, C.t cw.2.2.1⟩
    ⟨xt_blind, va_recv C.K hP hc he, fun U hU hW => xt_pre C.K hP hD U hU hW⟩ rfl hn hl hst (lv_room hrm) hdg hf
theorem xt_runS {Qc : Nat → Array Value → State → Outcome → State → Prop} {y : MethodName} {b : ByteArray} {nL' : Nat} {ret : Option FieldType} {d' n idx : Nat} {As : List Value} {wc : va_W}
    (C : xt_C p s m args c cc nL own D cI cL) (hP : va_P D vwCl wc H) (hD : va_D A wc) (cw : xt_cs own idx y b nL' ret n) (M : xt_M l y b nL' ret d' D cI cL As wc Qc) (hn : As.length = n) (hl : ls.size = nL) (hst : st0 = As.reverse ++ rest) (hrm : (rest.map fun v => v.category).sum ≤ 8) (hR : d' + 1 ≤ R.frames ∧ 8 + (nL' + 11) + 40 * d' ≤ R.locals) (hf : cells ≤ R.cells ∧ slots ≤ R.slots) (hdg : decode cc pc = .ok (.invokestatic idx, 3)) :
    va_Run p l e R s m args below meth c H locs cells slots 0 0 (F0 m pc ls st0) rest (Qc H.size As.toArray) (va_A wc H.size) :=
  va_runS (nL := nL) (Ts := xt_T) (own := own) (As := As) ⟨C.1, C.2.1, C.2.2.1, C.2.2.2.1, C.2.2.2.2.1⟩ (M H.size)
    ⟨callB_of n C.2.2.2.2.1 (xt_good cw.2.2.2.1) rfl rfl rfl (C.t cw.2.2.1) (C.t cw.1) cw.2.2.2.2 hR, C.t cw.2.1⟩
    ⟨xt_blind, fun U hU hW => xt_pre C.K hP hD U hU hW⟩ rfl hn hl hst (lv_room hrm) hdg hf
theorem xt_fr (hA : ∀ q, H0.size ≤ q → A q) (w : xt_W D A H0 ws H locs) : ∀ q, va_A ws H.size q → A q := fun q h => by
  rcases h with ⟨k, e, h⟩ | h
  · exact w.2.1.2 k _ h
  · exact hA q (Nat.le_trans w.2.2.1 h)
theorem xt_ci {U : Type} {post : Int32 → U → Prop} {ws' : U → va_W} {av : Array Value} (hA : ∀ q, H0.size ≤ q → A q) (w : xt_W D A H0 ws H locs) (hr : va_Run p l e R s m args below meth c H locs cells slots 0 0 (F0 m pc ls st0) rest (xt_Qi D cI cL ws post ws' H.size av) (va_A ws H.size))
    (kk : ∀ (r : Int32) (u : U) (H1 : Heap) (locs1 : List Loc), post r u → xt_W D A H0 (ws' u) H1 locs1 → W p l e R s m args below meth c H1 locs1 cells slots Q (F0 m (pc + 3) ls (.int r :: rest))) : W p l e R s m args below meth c H locs cells slots Q (F0 m pc ls st0) := by
  refine va_calli hr w.2.2 (fun q _ h => xt_fr hA w q h) (xt_fr hA w) (fun r u t H1 locs1 ht hvm hp hB hz hk hS => ?_)
  obtain ⟨hP1, hK1, hD1⟩ := hB
  rw [ht] at hP1
  exact kk r u H1 locs1 hp ⟨hP1, hD1.weaken (fun k q _ h => xt_fr hA w q.1 h), hS⟩
theorem xt_cl {U : Type} {post : Int64 → U → Prop} {ws' : U → va_W} {av : Array Value} (hA : ∀ q, H0.size ≤ q → A q) (w : xt_W D A H0 ws H locs) (hr : va_Run p l e R s m args below meth c H locs cells slots 0 0 (F0 m pc ls st0) rest (xt_Ql D cI cL ws post ws' H.size av) (va_A ws H.size))
    (kk : ∀ (r : Int64) (u : U) (H1 : Heap) (locs1 : List Loc), post r u → xt_W D A H0 (ws' u) H1 locs1 → W p l e R s m args below meth c H1 locs1 cells slots Q (F0 m (pc + 3) ls (.long r :: rest))) : W p l e R s m args below meth c H locs cells slots Q (F0 m pc ls st0) := by
  refine va_calll hr w.2.2 (fun q _ h => xt_fr hA w q h) (xt_fr hA w) (fun r u t H1 locs1 ht hvm hp hB hz hk hS => ?_)
  obtain ⟨hP1, hK1, hD1⟩ := hB
  rw [ht] at hP1
  exact kk r u H1 locs1 hp ⟨hP1, hD1.weaken (fun k q _ h => xt_fr hA w q.1 h), hS⟩
theorem xt_cvd {U : Type} {post : U → Prop} {ws' : U → va_W} {av : Array Value} (hA : ∀ q, H0.size ≤ q → A q) (w : xt_W D A H0 ws H locs) (hr : va_Run p l e R s m args below meth c H locs cells slots 0 0 (F0 m pc ls st0) rest (xt_Qv D cI cL ws post ws' H.size av) (va_A ws H.size))
    (kk : ∀ (u : U) (H1 : Heap) (locs1 : List Loc), post u → xt_W D A H0 (ws' u) H1 locs1 → W p l e R s m args below meth c H1 locs1 cells slots Q (F0 m (pc + 3) ls rest)) : W p l e R s m args below meth c H locs cells slots Q (F0 m pc ls st0) := by
  refine va_callv hr w.2.2 (fun q _ h => xt_fr hA w q h) (xt_fr hA w) (fun u t H1 locs1 ht hvm hp hB hz hk hS => ?_)
  obtain ⟨hP1, hK1, hD1⟩ := hB
  rw [ht] at hP1
  exact kk u H1 locs1 hp ⟨hP1, hD1.weaken (fun k q _ h => xt_fr hA w q.1 h), hS⟩
/-! fields and arrays -/
abbrev xt_i (cI : ClassId) (n : Nat) (f : Nat → Nat) : va_E := .inl (cI, n, .inl (fun j => nI (f j)))
abbrev xt_l (cL : ClassId) (n : Nat) (f : Nat → Nat) : va_E := .inl (cL, n, .inr (.inl (fun j => lN (f j))))
theorem xt_get {T : u_T} {N ci idx : Nat} {fs : List Value} {v : Value} (hin : ∀ w ∈ u_ws own T N, w ∈ xt_T) (C : xt_C p s m args c cc nL own D cI cL) (w : xt_W D A H0 ws H locs) (q0 : Nat) (he : ws[q0]? = some (a, .inr (ci, fs))) (hc : vwCl[ci]? = some (own, T, N)) (k : Nat) (hk : k < N) (hd : (T k).1 = own) (hl : Cond.fieldLink own idx own (T k).2.1 (T k).2.2.1 ∈ xt_T) (hv : fs[k]? = some v) (hdg : decode cc pc = .ok (.getfield idx, 3))
    (kk : W p l e R s m args below meth c H locs cells slots Q (F0 m (pc + 3) ls (v :: rest))) : W p l e R s m args below meth c H locs cells slots Q (F0 m pc ls (.ref a :: rest)) :=
  va_get C.1 C.2.1 C.2.2.2.2.1 hin C.o C.K w.1 q0 he hc k hk (C.t hl) (fun x h => by rw [hd] at h; exact h) hv hdg kk
theorem xt_put {T : u_T} {N ci idx : Nat} {fs : List Value} {v : Value} {ty : FieldType} (hin : ∀ w ∈ u_ws own T N, w ∈ xt_T) (ty0 : Nat → FieldType) (hty : ∀ k, k < N → parseFieldDescriptor (T k).2.2.1 = some (ty0 k)) (hnm : ∀ a, a < N → ∀ b, b < N → a ≠ b → (T a).2.1 ≠ (T b).2.1) (C : xt_C p s m args c cc nL own D cI cL) (w : xt_W D A H0 ws H locs) (q0 : Nat) (he : ws[q0]? = some (a, .inr (ci, fs))) (hc : vwCl[ci]? = some (own, T, N)) (k : Nat) (hk : k < N) (hd : (T k).1 = own) (hl : Cond.fieldLink own idx own (T k).2.1 (T k).2.2.1 ∈ xt_T) (hfin : (T k).2.2.2 = false) (hpd : parseFieldDescriptor (T k).2.2.1 = some ty) (hn : narrow ty v = v) (hfit : fits ty v = true) (hlen : k < fs.length) (hdg : decode cc pc = .ok (.putfield idx, 3))
    (kk : ∀ (H1 : Heap) (locs1 : List Loc), xt_W D A H0 (ws.set q0 (a, .inr (ci, fs.set k v))) H1 locs1 → W p l e R s m args below meth c H1 locs1 cells slots Q (F0 m (pc + 3) ls rest)) : W p l e R s m args below meth c H locs cells slots Q (F0 m pc ls (v :: .ref a :: rest)) :=
  va_put C.1 C.2.1 C.2.2.2.2.1 hin ty0 hty hnm C.o C.K w.1 w.2.1 w.2.2 q0 he hc k hk (C.t hl) (fun x h => by rw [hd] at h; exact h) hfin hpd hn hfit hlen hdg (fun H1 locs1 hP hD hS => kk H1 locs1 ⟨hP, hD, hS⟩)
theorem xt_iald (C : xt_C p s m args c cc nL own D cI cL) (w : xt_W D A H0 ws H locs) (q0 : Nat) {n k : Nat} {f : Nat → Nat} (ha : ws[q0]? = some (a, xt_i cI n f)) (hn : n < 2 ^ 31) (hdg : decode cc pc = .ok (.iaload, 1)) (hk : k < n)
    (kk : W p l e R s m args below meth c H locs cells slots Q (F0 m (pc + 1) ls (.int (nI (f k)) :: rest))) : W p l e R s m args below meth c H locs cells slots Q (F0 m pc ls (.int (nI k) :: .ref a :: rest)) :=
  va_iald C.1 C.2.1 C.K w.1 q0 0 ha rfl (vp_in_nI hk hn) hdg (by rw [nI_clamp (by omega)]; exact kk)
theorem xt_lald (C : xt_C p s m args c cc nL own D cI cL) (w : xt_W D A H0 ws H locs) (q0 : Nat) {n k : Nat} {f : Nat → Nat} (ha : ws[q0]? = some (a, xt_l cL n f)) (hn : n < 2 ^ 31) (hdg : decode cc pc = .ok (.laload, 1)) (hk : k < n)
    (kk : W p l e R s m args below meth c H locs cells slots Q (F0 m (pc + 1) ls (.long (lN (f k)) :: rest))) : W p l e R s m args below meth c H locs cells slots Q (F0 m pc ls (.int (nI k) :: .ref a :: rest)) :=
  va_lald C.1 C.2.1 C.K w.1 q0 1 ha rfl (vp_in_nI hk hn) hdg (by rw [nI_clamp (by omega)]; exact kk)
theorem xt_upI {f : Nat → Nat} {k x : Nat} : upd (fun j => nI (f j)) k (nI x) = fun j => nI (va_up f k x j) := by
  funext j
  unfold upd va_up
  split <;> rfl
theorem xt_upL {f : Nat → Nat} {k x : Nat} : vp_updL (fun j => lN (f j)) k (lN x) = fun j => lN (va_up f k x j) := by
  funext j
  unfold vp_updL va_up
  split <;> rfl
theorem xt_iast (C : xt_C p s m args c cc nL own D cI cL) (w : xt_W D A H0 ws H locs) (q0 : Nat) {n k x : Nat} {f : Nat → Nat} (ha : ws[q0]? = some (a, xt_i cI n f)) (hn : n < 2 ^ 31) (hdg : decode cc pc = .ok (.iastore, 1)) (hk : k < n)
    (kk : ∀ (H1 : Heap) (locs1 : List Loc), xt_W D A H0 (ws.set q0 (a, xt_i cI n (va_up f k x))) H1 locs1 → W p l e R s m args below meth c H1 locs1 cells slots Q (F0 m (pc + 1) ls rest)) : W p l e R s m args below meth c H locs cells slots Q (F0 m pc ls (.int (nI x) :: .int (nI k) :: .ref a :: rest)) := by
  refine va_iast C.1 C.2.1 C.K w.1 w.2.1 w.2.2 q0 0 ha rfl (vp_in_nI hk hn) hdg (fun H1 locs1 hP hD hS => ?_)
  rw [nI_clamp (by omega), xt_upI] at hP hD
  exact kk H1 locs1 ⟨hP, hD, hS⟩
theorem xt_last (C : xt_C p s m args c cc nL own D cI cL) (w : xt_W D A H0 ws H locs) (q0 : Nat) {n k x : Nat} {f : Nat → Nat} (ha : ws[q0]? = some (a, xt_l cL n f)) (hn : n < 2 ^ 31) (hdg : decode cc pc = .ok (.lastore, 1)) (hk : k < n)
    (kk : ∀ (H1 : Heap) (locs1 : List Loc), xt_W D A H0 (ws.set q0 (a, xt_l cL n (va_up f k x))) H1 locs1 → W p l e R s m args below meth c H1 locs1 cells slots Q (F0 m (pc + 1) ls rest)) : W p l e R s m args below meth c H locs cells slots Q (F0 m pc ls (.long (lN x) :: .int (nI k) :: .ref a :: rest)) := by
  refine va_last C.1 C.2.1 C.K w.1 w.2.1 w.2.2 q0 1 ha rfl (vp_in_nI hk hn) hdg (fun H1 locs1 hP hD hS => ?_)
  rw [nI_clamp (by omega), xt_upL] at hP hD
  exact kk H1 locs1 ⟨hP, hD, hS⟩
/-! numbers -/
theorem xt_iadd (C : xt_C p s m args c cc nL own D cI cL) {x y : Nat} (hdg : decode cc pc = .ok (.iadd, 1)) (k : W p l e R s m args below meth c H locs cells slots Q (F0 m (pc + 1) ls (.int (nI (x + y)) :: rest))) : W p l e R s m args below meth c H locs cells slots Q (F0 m pc ls (.int (nI y) :: .int (nI x) :: rest)) :=
  lv_iadd C.1 C.2.1 hdg (by rw [nI_add]; exact k)
theorem xt_isub (C : xt_C p s m args c cc nL own D cI cL) {x y : Nat} (hdg : decode cc pc = .ok (.isub, 1)) (h : y ≤ x) (k : W p l e R s m args below meth c H locs cells slots Q (F0 m (pc + 1) ls (.int (nI (x - y)) :: rest))) : W p l e R s m args below meth c H locs cells slots Q (F0 m pc ls (.int (nI y) :: .int (nI x) :: rest)) :=
  lv_isub C.1 C.2.1 hdg (by rw [pk_sub h]; exact k)
theorem xt_imul (C : xt_C p s m args c cc nL own D cI cL) {x y : Nat} (hdg : decode cc pc = .ok (.imul, 1)) (k : W p l e R s m args below meth c H locs cells slots Q (F0 m (pc + 1) ls (.int (nI (x * y)) :: rest))) : W p l e R s m args below meth c H locs cells slots Q (F0 m pc ls (.int (nI y) :: .int (nI x) :: rest)) :=
  lv_imul C.1 C.2.1 hdg (by rw [pk_mul]; exact k)
theorem xt_idiv (C : xt_C p s m args c cc nL own D cI cL) {x y : Nat} (hdg : decode cc pc = .ok (.idiv, 1)) (h0 : 0 < y) (hx : x < 2 ^ 31) (hy : y < 2 ^ 31) (k : W p l e R s m args below meth c H locs cells slots Q (F0 m (pc + 1) ls (.int (nI (x / y)) :: rest))) : W p l e R s m args below meth c H locs cells slots Q (F0 m pc ls (.int (nI y) :: .int (nI x) :: rest)) :=
  lv_idiv C.1 C.2.1 hdg (nI_ne0 h0 hy) (by rw [pk_div hx h0 hy]; exact k)
theorem xt_irem (C : xt_C p s m args c cc nL own D cI cL) {x y : Nat} (hdg : decode cc pc = .ok (.irem, 1)) (h0 : 0 < y) (hx : x < 2 ^ 31) (hy : y < 2 ^ 31) (k : W p l e R s m args below meth c H locs cells slots Q (F0 m (pc + 1) ls (.int (nI (x % y)) :: rest))) : W p l e R s m args below meth c H locs cells slots Q (F0 m pc ls (.int (nI y) :: .int (nI x) :: rest)) :=
  lv_irem C.1 C.2.1 hdg (nI_ne0 h0 hy) (by rw [pk_rem hx h0 hy]; exact k)
theorem xt_ladd (C : xt_C p s m args c cc nL own D cI cL) {x y : Nat} (hdg : decode cc pc = .ok (.ladd, 1)) (k : W p l e R s m args below meth c H locs cells slots Q (F0 m (pc + 1) ls (.long (lN (x + y)) :: rest))) : W p l e R s m args below meth c H locs cells slots Q (F0 m pc ls (.long (lN y) :: .long (lN x) :: rest)) :=
  lv_ladd C.1 C.2.1 hdg (by rw [lN_add]; exact k)
theorem xt_lmul (C : xt_C p s m args c cc nL own D cI cL) {x y : Nat} (hdg : decode cc pc = .ok (.lmul, 1)) (k : W p l e R s m args below meth c H locs cells slots Q (F0 m (pc + 1) ls (.long (lN (x * y)) :: rest))) : W p l e R s m args below meth c H locs cells slots Q (F0 m pc ls (.long (lN y) :: .long (lN x) :: rest)) :=
  lv_lmul C.1 C.2.1 hdg (by rw [lN_mul]; exact k)
theorem xt_lsub (C : xt_C p s m args c cc nL own D cI cL) {x y : Nat} (hdg : decode cc pc = .ok (.lsub, 1)) (h : y ≤ x) (k : W p l e R s m args below meth c H locs cells slots Q (F0 m (pc + 1) ls (.long (lN (x - y)) :: rest))) : W p l e R s m args below meth c H locs cells slots Q (F0 m pc ls (.long (lN y) :: .long (lN x) :: rest)) :=
  lv_lsub C.1 C.2.1 hdg (by rw [lN_sub h]; exact k)
theorem xt_ne0L {y : Nat} (h0 : 0 < y) (hy : y < 2 ^ 63) : ¬ lN y = 0 := by
  intro q
  have := (pk_lEQ hy (b := 0) (by omega)).mp q
  omega
theorem xt_ldiv (C : xt_C p s m args c cc nL own D cI cL) {x y : Nat} (hdg : decode cc pc = .ok (.ldiv, 1)) (h0 : 0 < y) (hx : x < 2 ^ 63) (hy : y < 2 ^ 63) (k : W p l e R s m args below meth c H locs cells slots Q (F0 m (pc + 1) ls (.long (lN (x / y)) :: rest))) : W p l e R s m args below meth c H locs cells slots Q (F0 m pc ls (.long (lN y) :: .long (lN x) :: rest)) :=
  lv_ldiv C.1 C.2.1 hdg (xt_ne0L h0 hy) (by rw [pk_lDiv hx h0 hy]; exact k)
theorem xt_lrem (C : xt_C p s m args c cc nL own D cI cL) {x y : Nat} (hdg : decode cc pc = .ok (.lrem, 1)) (h0 : 0 < y) (hx : x < 2 ^ 63) (hy : y < 2 ^ 63) (k : W p l e R s m args below meth c H locs cells slots Q (F0 m (pc + 1) ls (.long (lN (x % y)) :: rest))) : W p l e R s m args below meth c H locs cells slots Q (F0 m pc ls (.long (lN y) :: .long (lN x) :: rest)) :=
  lv_lrem C.1 C.2.1 hdg (xt_ne0L h0 hy) (by rw [pk_lRem hx h0 hy]; exact k)
theorem xt_i2l (C : xt_C p s m args c cc nL own D cI cL) {x : Nat} (hdg : decode cc pc = .ok (.i2l, 1)) (h : x < 2 ^ 31) (k : W p l e R s m args below meth c H locs cells slots Q (F0 m (pc + 1) ls (.long (lN x) :: rest))) : W p l e R s m args below meth c H locs cells slots Q (F0 m pc ls (.int (nI x) :: rest)) :=
  lv_i2l C.1 C.2.1 hdg (nI_l h) k
theorem xt_l2i (C : xt_C p s m args c cc nL own D cI cL) {x : Nat} (hdg : decode cc pc = .ok (.l2i, 1)) (k : W p l e R s m args below meth c H locs cells slots Q (F0 m (pc + 1) ls (.int (nI x) :: rest))) : W p l e R s m args below meth c H locs cells slots Q (F0 m pc ls (.long (lN x) :: rest)) :=
  lv_l2i C.1 C.2.1 hdg (lN_i x) k
theorem xt_inc {x : Nat} : nI x + Int32.ofInt 1 = nI (x + 1) := (nI_succ x).symm
theorem xt_inc5 {x : Nat} : nI x + Int32.ofInt 5 = nI (x + 5) := nI_add x 5
theorem xt_dec1 {x : Nat} : nI (x + 1) + Int32.ofInt (-1) = nI x := pk_m1 x
theorem xt_dec {x : Nat} (h : 1 ≤ x) : nI x + Int32.ofInt (-1) = nI (x - 1) := by
  obtain ⟨y, rfl⟩ : ∃ y, x = y + 1 := ⟨x - 1, by omega⟩
  exact pk_m1 y
theorem xt_ldc2 (C : xt_C p s m args c cc nL own D cI cL) {idx : Nat} (v : Nat) {v64 : Int64} (hc : Cond.constantLong own idx v64 ∈ xt_T) (hdg : decode cc pc = .ok (.ldc2_w idx, 3)) (hv : v64 = lN v) (k : W p l e R s m args below meth c H locs cells slots Q (F0 m (pc + 3) ls (.long (lN v) :: rest))) : W p l e R s m args below meth c H locs cells slots Q (F0 m pc ls rest) :=
  lv_ldc2 C.1 C.2.1 C.o (C.t hc) hdg (by rw [hv]; exact k)
theorem xt_iconst (C : xt_C p s m args c cc nL own D cI cL) {n : Int} (v : Nat) (hdg : decode cc pc = .ok (.iconst n, 1)) (hv : Int32.ofInt n = nI v) (k : W p l e R s m args below meth c H locs cells slots Q (F0 m (pc + 1) ls (.int (nI v) :: rest))) : W p l e R s m args below meth c H locs cells slots Q (F0 m pc ls rest) :=
  lv_iconst C.1 C.2.1 hdg hv k
theorem xt_bipush (C : xt_C p s m args c cc nL own D cI cL) {n : Int} (v : Nat) (hdg : decode cc pc = .ok (.bipush n, 2)) (hv : (Int8.ofInt n).toInt32 = nI v) (k : W p l e R s m args below meth c H locs cells slots Q (F0 m (pc + 2) ls (.int (nI v) :: rest))) : W p l e R s m args below meth c H locs cells slots Q (F0 m pc ls rest) :=
  lv_bipush C.1 C.2.1 hdg hv k
theorem xt_sipush (C : xt_C p s m args c cc nL own D cI cL) {n : Int} (v : Nat) (hdg : decode cc pc = .ok (.sipush n, 3)) (hv : (Int16.ofInt n).toInt32 = nI v) (k : W p l e R s m args below meth c H locs cells slots Q (F0 m (pc + 3) ls (.int (nI v) :: rest))) : W p l e R s m args below meth c H locs cells slots Q (F0 m pc ls rest) :=
  lv_sipush C.1 C.2.1 hdg hv k
theorem xt_lconst (C : xt_C p s m args c cc nL own D cI cL) {n : Fin 2} (v : Nat) (hdg : decode cc pc = .ok (.lconst n, 1)) (hv : Int64.ofNat (n : Nat) = lN v) (k : W p l e R s m args below meth c H locs cells slots Q (F0 m (pc + 1) ls (.long (lN v) :: rest))) : W p l e R s m args below meth c H locs cells slots Q (F0 m pc ls rest) :=
  lv_lconst C.1 C.2.1 hdg hv k
theorem xt_icmp_eq (C : xt_C p s m args c cc nL own D cI cL) {x y : Nat} (hx : x < 2 ^ 31) (hy : y < 2 ^ 31) {off : Int} {tgt : Nat} (hdg : decode cc pc = .ok (.if_icmp .eq off, 3)) (ht : (pc : Int) + off = (tgt : Int)) (kt : x = y → W p l e R s m args below meth c H locs cells slots Q (F0 m tgt ls rest)) (kf : x ≠ y → W p l e R s m args below meth c H locs cells slots Q (F0 m (pc + 3) ls rest)) : W p l e R s m args below meth c H locs cells slots Q (F0 m pc ls (.int (nI y) :: .int (nI x) :: rest)) :=
  lv_icmp_eq C.1 C.2.1 hdg ht (fun h => kt ((nI_eq hx hy).mp h)) (fun h => kf (by have h2 : ¬ (x = y) := fun q => h ((nI_eq hx hy).mpr q); omega))
theorem xt_icmp_ne (C : xt_C p s m args c cc nL own D cI cL) {x y : Nat} (hx : x < 2 ^ 31) (hy : y < 2 ^ 31) {off : Int} {tgt : Nat} (hdg : decode cc pc = .ok (.if_icmp .ne off, 3)) (ht : (pc : Int) + off = (tgt : Int)) (kt : x ≠ y → W p l e R s m args below meth c H locs cells slots Q (F0 m tgt ls rest)) (kf : x = y → W p l e R s m args below meth c H locs cells slots Q (F0 m (pc + 3) ls rest)) : W p l e R s m args below meth c H locs cells slots Q (F0 m pc ls (.int (nI y) :: .int (nI x) :: rest)) :=
  lv_icmp_ne C.1 C.2.1 hdg ht (fun h => kt (fun q => h ((nI_eq hx hy).mpr q))) (fun h => kf ((nI_eq hx hy).mp h))
theorem xt_icmp_lt (C : xt_C p s m args c cc nL own D cI cL) {x y : Nat} (hx : x < 2 ^ 31) (hy : y < 2 ^ 31) {off : Int} {tgt : Nat} (hdg : decode cc pc = .ok (.if_icmp .lt off, 3)) (ht : (pc : Int) + off = (tgt : Int)) (kt : x < y → W p l e R s m args below meth c H locs cells slots Q (F0 m tgt ls rest)) (kf : y ≤ x → W p l e R s m args below meth c H locs cells slots Q (F0 m (pc + 3) ls rest)) : W p l e R s m args below meth c H locs cells slots Q (F0 m pc ls (.int (nI y) :: .int (nI x) :: rest)) :=
  lv_icmp_lt C.1 C.2.1 hdg ht (fun h => kt ((nI_ltI hx hy).mp h)) (fun h => kf (by have h2 : ¬ (x < y) := fun q => h ((nI_ltI hx hy).mpr q); omega))
theorem xt_icmp_ge (C : xt_C p s m args c cc nL own D cI cL) {x y : Nat} (hx : x < 2 ^ 31) (hy : y < 2 ^ 31) {off : Int} {tgt : Nat} (hdg : decode cc pc = .ok (.if_icmp .ge off, 3)) (ht : (pc : Int) + off = (tgt : Int)) (kt : y ≤ x → W p l e R s m args below meth c H locs cells slots Q (F0 m tgt ls rest)) (kf : x < y → W p l e R s m args below meth c H locs cells slots Q (F0 m (pc + 3) ls rest)) : W p l e R s m args below meth c H locs cells slots Q (F0 m pc ls (.int (nI y) :: .int (nI x) :: rest)) :=
  lv_icmp_ge C.1 C.2.1 hdg ht (fun h => kt ((nI_leI hy hx).mp h)) (fun h => kf (by have h2 : ¬ (y ≤ x) := fun q => h ((nI_leI hy hx).mpr q); omega))
theorem xt_icmp_gt (C : xt_C p s m args c cc nL own D cI cL) {x y : Nat} (hx : x < 2 ^ 31) (hy : y < 2 ^ 31) {off : Int} {tgt : Nat} (hdg : decode cc pc = .ok (.if_icmp .gt off, 3)) (ht : (pc : Int) + off = (tgt : Int)) (kt : y < x → W p l e R s m args below meth c H locs cells slots Q (F0 m tgt ls rest)) (kf : x ≤ y → W p l e R s m args below meth c H locs cells slots Q (F0 m (pc + 3) ls rest)) : W p l e R s m args below meth c H locs cells slots Q (F0 m pc ls (.int (nI y) :: .int (nI x) :: rest)) :=
  lv_icmp_gt C.1 C.2.1 hdg ht (fun h => kt ((nI_ltI hy hx).mp h)) (fun h => kf (by have h2 : ¬ (y < x) := fun q => h ((nI_ltI hy hx).mpr q); omega))
theorem xt_icmp_le (C : xt_C p s m args c cc nL own D cI cL) {x y : Nat} (hx : x < 2 ^ 31) (hy : y < 2 ^ 31) {off : Int} {tgt : Nat} (hdg : decode cc pc = .ok (.if_icmp .le off, 3)) (ht : (pc : Int) + off = (tgt : Int)) (kt : x ≤ y → W p l e R s m args below meth c H locs cells slots Q (F0 m tgt ls rest)) (kf : y < x → W p l e R s m args below meth c H locs cells slots Q (F0 m (pc + 3) ls rest)) : W p l e R s m args below meth c H locs cells slots Q (F0 m pc ls (.int (nI y) :: .int (nI x) :: rest)) :=
  lv_icmp_le C.1 C.2.1 hdg ht (fun h => kt ((nI_leI hx hy).mp h)) (fun h => kf (by have h2 : ¬ (x ≤ y) := fun q => h ((nI_leI hx hy).mpr q); omega))
theorem xt_z {x : Nat} (hx : x < 2 ^ 31) : nI x = 0 ↔ x = 0 := by
  have h := nI_eq hx (b := 0) (by omega)
  rw [nI_0] at h
  exact h
theorem xt_zp {x : Nat} (hx : x < 2 ^ 31) : 0 < nI x ↔ 0 < x := by
  have h := nI_ltI (a := 0) (b := x) (by omega) hx
  rw [nI_0] at h
  exact h
theorem xt_zl {x : Nat} (hx : x < 2 ^ 31) : nI x ≤ 0 ↔ x = 0 := by
  have h := nI_leI (a := x) (b := 0) hx (by omega)
  rw [nI_0] at h
  rw [h]
  omega
theorem xt_if_eq (C : xt_C p s m args c cc nL own D cI cL) {x : Nat} (hx : x < 2 ^ 31) {off : Int} {tgt : Nat} (hdg : decode cc pc = .ok (.ifCond .eq off, 3)) (ht : (pc : Int) + off = (tgt : Int)) (kt : x = 0 → W p l e R s m args below meth c H locs cells slots Q (F0 m tgt ls rest)) (kf : x ≠ 0 → W p l e R s m args below meth c H locs cells slots Q (F0 m (pc + 3) ls rest)) : W p l e R s m args below meth c H locs cells slots Q (F0 m pc ls (.int (nI x) :: rest)) :=
  lv_if_eq C.1 C.2.1 hdg ht (fun h => kt ((xt_z hx).mp h)) (fun h => kf (by have h2 : ¬ (x = 0) := fun q => h ((xt_z hx).mpr q); omega))
theorem xt_if_ne (C : xt_C p s m args c cc nL own D cI cL) {x : Nat} (hx : x < 2 ^ 31) {off : Int} {tgt : Nat} (hdg : decode cc pc = .ok (.ifCond .ne off, 3)) (ht : (pc : Int) + off = (tgt : Int)) (kt : x ≠ 0 → W p l e R s m args below meth c H locs cells slots Q (F0 m tgt ls rest)) (kf : x = 0 → W p l e R s m args below meth c H locs cells slots Q (F0 m (pc + 3) ls rest)) : W p l e R s m args below meth c H locs cells slots Q (F0 m pc ls (.int (nI x) :: rest)) :=
  lv_if_ne C.1 C.2.1 hdg ht (fun h => kt (fun q => h ((xt_z hx).mpr q))) (fun h => kf ((xt_z hx).mp h))
theorem xt_if_gt (C : xt_C p s m args c cc nL own D cI cL) {x : Nat} (hx : x < 2 ^ 31) {off : Int} {tgt : Nat} (hdg : decode cc pc = .ok (.ifCond .gt off, 3)) (ht : (pc : Int) + off = (tgt : Int)) (kt : 0 < x → W p l e R s m args below meth c H locs cells slots Q (F0 m tgt ls rest)) (kf : x = 0 → W p l e R s m args below meth c H locs cells slots Q (F0 m (pc + 3) ls rest)) : W p l e R s m args below meth c H locs cells slots Q (F0 m pc ls (.int (nI x) :: rest)) :=
  lv_if_gt C.1 C.2.1 hdg ht (fun h => kt ((xt_zp hx).mp h)) (fun h => kf (by have h2 : ¬ (0 < x) := fun q => h ((xt_zp hx).mpr q); omega))
theorem xt_if_le (C : xt_C p s m args c cc nL own D cI cL) {x : Nat} (hx : x < 2 ^ 31) {off : Int} {tgt : Nat} (hdg : decode cc pc = .ok (.ifCond .le off, 3)) (ht : (pc : Int) + off = (tgt : Int)) (kt : x = 0 → W p l e R s m args below meth c H locs cells slots Q (F0 m tgt ls rest)) (kf : 0 < x → W p l e R s m args below meth c H locs cells slots Q (F0 m (pc + 3) ls rest)) : W p l e R s m args below meth c H locs cells slots Q (F0 m pc ls (.int (nI x) :: rest)) :=
  lv_if_le C.1 C.2.1 hdg ht (fun h => kt ((xt_zl hx).mp h)) (fun h => kf (by have h2 : ¬ (x = 0) := fun q => h ((xt_zl hx).mpr q); omega))
theorem xt_if_lt (C : xt_C p s m args c cc nL own D cI cL) {x : Nat} (hx : x < 2 ^ 31) {off : Int} {tgt : Nat} (hdg : decode cc pc = .ok (.ifCond .lt off, 3)) (ht : (pc : Int) + off = (tgt : Int)) (kf : W p l e R s m args below meth c H locs cells slots Q (F0 m (pc + 3) ls rest)) : W p l e R s m args below meth c H locs cells slots Q (F0 m pc ls (.int (nI x) :: rest)) :=
  lv_if_lt C.1 C.2.1 hdg ht (fun h => absurd h (nI_pos hx)) (fun _ => kf)
theorem xt_if_ge (C : xt_C p s m args c cc nL own D cI cL) {x : Nat} (hx : x < 2 ^ 31) {off : Int} {tgt : Nat} (hdg : decode cc pc = .ok (.ifCond .ge off, 3)) (ht : (pc : Int) + off = (tgt : Int)) (kt : W p l e R s m args below meth c H locs cells slots Q (F0 m tgt ls rest)) : W p l e R s m args below meth c H locs cells slots Q (F0 m pc ls (.int (nI x) :: rest)) :=
  lv_if_ge C.1 C.2.1 hdg ht (fun _ => kt) (fun h => absurd (nI_pos' hx) h)
theorem xt_l_eq (C : xt_C p s m args c cc nL own D cI cL) {x y : Nat} (hx : x < 2 ^ 63) (hy : y < 2 ^ 63) {off : Int} {tgt : Nat} (hd1 : decode cc pc = .ok (.lcmp, 1)) (hdg : decode cc (pc + 1) = .ok (.ifCond .eq off, 3)) (ht : ((pc + 1 : Nat) : Int) + off = (tgt : Int)) (kt : x = y → W p l e R s m args below meth c H locs cells slots Q (F0 m tgt ls rest)) (kf : x ≠ y → W p l e R s m args below meth c H locs cells slots Q (F0 m (pc + 1 + 3) ls rest)) : W p l e R s m args below meth c H locs cells slots Q (F0 m pc ls (.long (lN y) :: .long (lN x) :: rest)) := by
  refine W.lcmp C.1 C.2.1 hd1 ?_
  exact lv_if_eq C.1 C.2.1 hdg ht (fun h => kt ((pk_lEQ hx hy).mp ((lg_cmp_eq _ _).mp h))) (fun h => kf (by have h2 : ¬ (x = y) := fun q => h ((lg_cmp_eq _ _).mpr ((pk_lEQ hx hy).mpr q)); omega))
theorem xt_l_ne (C : xt_C p s m args c cc nL own D cI cL) {x y : Nat} (hx : x < 2 ^ 63) (hy : y < 2 ^ 63) {off : Int} {tgt : Nat} (hd1 : decode cc pc = .ok (.lcmp, 1)) (hdg : decode cc (pc + 1) = .ok (.ifCond .ne off, 3)) (ht : ((pc + 1 : Nat) : Int) + off = (tgt : Int)) (kt : x ≠ y → W p l e R s m args below meth c H locs cells slots Q (F0 m tgt ls rest)) (kf : x = y → W p l e R s m args below meth c H locs cells slots Q (F0 m (pc + 1 + 3) ls rest)) : W p l e R s m args below meth c H locs cells slots Q (F0 m pc ls (.long (lN y) :: .long (lN x) :: rest)) := by
  refine W.lcmp C.1 C.2.1 hd1 ?_
  exact lv_if_ne C.1 C.2.1 hdg ht (fun h => kt (fun q => h ((lg_cmp_eq _ _).mpr ((pk_lEQ hx hy).mpr q)))) (fun h => kf ((pk_lEQ hx hy).mp ((lg_cmp_eq _ _).mp h)))
theorem xt_l_lt (C : xt_C p s m args c cc nL own D cI cL) {x y : Nat} (hx : x < 2 ^ 63) (hy : y < 2 ^ 63) {off : Int} {tgt : Nat} (hd1 : decode cc pc = .ok (.lcmp, 1)) (hdg : decode cc (pc + 1) = .ok (.ifCond .lt off, 3)) (ht : ((pc + 1 : Nat) : Int) + off = (tgt : Int)) (kt : x < y → W p l e R s m args below meth c H locs cells slots Q (F0 m tgt ls rest)) (kf : y ≤ x → W p l e R s m args below meth c H locs cells slots Q (F0 m (pc + 1 + 3) ls rest)) : W p l e R s m args below meth c H locs cells slots Q (F0 m pc ls (.long (lN y) :: .long (lN x) :: rest)) := by
  refine W.lcmp C.1 C.2.1 hd1 ?_
  exact lv_if_lt C.1 C.2.1 hdg ht (fun h => kt ((pk_lLT hx hy).mp ((lg_cmp_lt _ _).mp h))) (fun h => kf (by have h2 : ¬ (x < y) := fun q => h ((lg_cmp_lt _ _).mpr ((pk_lLT hx hy).mpr q)); omega))
theorem xt_l_ge (C : xt_C p s m args c cc nL own D cI cL) {x y : Nat} (hx : x < 2 ^ 63) (hy : y < 2 ^ 63) {off : Int} {tgt : Nat} (hd1 : decode cc pc = .ok (.lcmp, 1)) (hdg : decode cc (pc + 1) = .ok (.ifCond .ge off, 3)) (ht : ((pc + 1 : Nat) : Int) + off = (tgt : Int)) (kt : y ≤ x → W p l e R s m args below meth c H locs cells slots Q (F0 m tgt ls rest)) (kf : x < y → W p l e R s m args below meth c H locs cells slots Q (F0 m (pc + 1 + 3) ls rest)) : W p l e R s m args below meth c H locs cells slots Q (F0 m pc ls (.long (lN y) :: .long (lN x) :: rest)) := by
  refine W.lcmp C.1 C.2.1 hd1 ?_
  exact lv_if_ge C.1 C.2.1 hdg ht (fun h => kt ((pk_lLE hy hx).mp ((lg_cmp_ge _ _).mp h))) (fun h => kf (by have h2 : ¬ (y ≤ x) := fun q => h ((lg_cmp_ge _ _).mpr ((pk_lLE hy hx).mpr q)); omega))
theorem xt_l_gt (C : xt_C p s m args c cc nL own D cI cL) {x y : Nat} (hx : x < 2 ^ 63) (hy : y < 2 ^ 63) {off : Int} {tgt : Nat} (hd1 : decode cc pc = .ok (.lcmp, 1)) (hdg : decode cc (pc + 1) = .ok (.ifCond .gt off, 3)) (ht : ((pc + 1 : Nat) : Int) + off = (tgt : Int)) (kt : y < x → W p l e R s m args below meth c H locs cells slots Q (F0 m tgt ls rest)) (kf : x ≤ y → W p l e R s m args below meth c H locs cells slots Q (F0 m (pc + 1 + 3) ls rest)) : W p l e R s m args below meth c H locs cells slots Q (F0 m pc ls (.long (lN y) :: .long (lN x) :: rest)) := by
  refine W.lcmp C.1 C.2.1 hd1 ?_
  exact lv_if_gt C.1 C.2.1 hdg ht (fun h => kt ((pk_lLT hy hx).mp ((lg_cmp_gt _ _).mp h))) (fun h => kf (by have h2 : ¬ (y < x) := fun q => h ((lg_cmp_gt _ _).mpr ((pk_lLT hy hx).mpr q)); omega))
theorem xt_l_le (C : xt_C p s m args c cc nL own D cI cL) {x y : Nat} (hx : x < 2 ^ 63) (hy : y < 2 ^ 63) {off : Int} {tgt : Nat} (hd1 : decode cc pc = .ok (.lcmp, 1)) (hdg : decode cc (pc + 1) = .ok (.ifCond .le off, 3)) (ht : ((pc + 1 : Nat) : Int) + off = (tgt : Int)) (kt : x ≤ y → W p l e R s m args below meth c H locs cells slots Q (F0 m tgt ls rest)) (kf : y < x → W p l e R s m args below meth c H locs cells slots Q (F0 m (pc + 1 + 3) ls rest)) : W p l e R s m args below meth c H locs cells slots Q (F0 m pc ls (.long (lN y) :: .long (lN x) :: rest)) := by
  refine W.lcmp C.1 C.2.1 hd1 ?_
  exact lv_if_le C.1 C.2.1 hdg ht (fun h => kt ((pk_lLE hx hy).mp ((lg_cmp_le _ _).mp h))) (fun h => kf (by have h2 : ¬ (x ≤ y) := fun q => h ((lg_cmp_le _ _).mpr ((pk_lLE hx hy).mpr q)); omega))
theorem xt_mT {y : Nat} (hy : y < 2 ^ 30) : (nI y - nI 1).toInt = (y : Int) - 1 := pk_sub_toInt hy (by omega)
theorem xt_nT {x : Nat} (hx : x < 2 ^ 30) : (nI x).toInt = (x : Int) := nI_toInt (by omega)
theorem xt_icmp_ge_m (C : xt_C p s m args c cc nL own D cI cL) {x y : Nat} (hx : x < 2 ^ 30) (hy : y < 2 ^ 30) {off : Int} {tgt : Nat} (hdg : decode cc pc = .ok (.if_icmp .ge off, 3)) (ht : (pc : Int) + off = (tgt : Int)) (kt : y ≤ x + 1 → W p l e R s m args below meth c H locs cells slots Q (F0 m tgt ls rest)) (kf : x + 1 < y → W p l e R s m args below meth c H locs cells slots Q (F0 m (pc + 3) ls rest)) : W p l e R s m args below meth c H locs cells slots Q (F0 m pc ls (.int (nI y - nI 1) :: .int (nI x) :: rest)) := by
  have key : nI y - nI 1 ≤ nI x ↔ y ≤ x + 1 := by
    rw [Int32.le_iff_toInt_le, xt_mT hy, xt_nT hx]
    omega
  exact lv_icmp_ge C.1 C.2.1 hdg ht (fun h => kt (key.mp h)) (fun h => kf (by have h2 : ¬ (y ≤ x + 1) := fun q => h (key.mpr q); omega))
theorem xt_icmp_gt_m (C : xt_C p s m args c cc nL own D cI cL) {x y : Nat} (hx : x < 2 ^ 30) (hy : y < 2 ^ 30) {off : Int} {tgt : Nat} (hdg : decode cc pc = .ok (.if_icmp .gt off, 3)) (ht : (pc : Int) + off = (tgt : Int)) (kt : y ≤ x → W p l e R s m args below meth c H locs cells slots Q (F0 m tgt ls rest)) (kf : x < y → W p l e R s m args below meth c H locs cells slots Q (F0 m (pc + 3) ls rest)) : W p l e R s m args below meth c H locs cells slots Q (F0 m pc ls (.int (nI y - nI 1) :: .int (nI x) :: rest)) := by
  have key : nI y - nI 1 < nI x ↔ y ≤ x := by
    rw [Int32.lt_iff_toInt_lt, xt_mT hy, xt_nT hx]
    omega
  exact lv_icmp_gt C.1 C.2.1 hdg ht (fun h => kt (key.mp h)) (fun h => kf (by have h2 : ¬ (y ≤ x) := fun q => h (key.mpr q); omega))
theorem xt_icmp_lt_m (C : xt_C p s m args c cc nL own D cI cL) {x y : Nat} (hx : x < 2 ^ 30) (hy : y < 2 ^ 30) {off : Int} {tgt : Nat} (hdg : decode cc pc = .ok (.if_icmp .lt off, 3)) (ht : (pc : Int) + off = (tgt : Int)) (kt : x ≤ y → W p l e R s m args below meth c H locs cells slots Q (F0 m tgt ls rest)) (kf : y < x → W p l e R s m args below meth c H locs cells slots Q (F0 m (pc + 3) ls rest)) : W p l e R s m args below meth c H locs cells slots Q (F0 m pc ls (.int (nI y) :: .int (nI x - nI 1) :: rest)) := by
  have key : nI x - nI 1 < nI y ↔ x ≤ y := by
    rw [Int32.lt_iff_toInt_lt, xt_mT hx, xt_nT hy]
    omega
  exact lv_icmp_lt C.1 C.2.1 hdg ht (fun h => kt (key.mp h)) (fun h => kf (by have h2 : ¬ (x ≤ y) := fun q => h (key.mpr q); omega))
theorem xt_if_lt_m (C : xt_C p s m args c cc nL own D cI cL) {x : Nat} (hx : x < 2 ^ 30) {off : Int} {tgt : Nat} (hdg : decode cc pc = .ok (.ifCond .lt off, 3)) (ht : (pc : Int) + off = (tgt : Int)) (kt : x = 0 → W p l e R s m args below meth c H locs cells slots Q (F0 m tgt ls rest)) (kf : 0 < x → W p l e R s m args below meth c H locs cells slots Q (F0 m (pc + 3) ls rest)) : W p l e R s m args below meth c H locs cells slots Q (F0 m pc ls (.int (nI x - nI 1) :: rest)) := by
  have key : nI x - nI 1 < 0 ↔ x = 0 := by
    rw [Int32.lt_iff_toInt_lt, xt_mT hx, Int32.toInt_zero]
    omega
  exact lv_if_lt C.1 C.2.1 hdg ht (fun h => kt (key.mp h)) (fun h => kf (by have h2 : ¬ (x = 0) := fun q => h (key.mpr q); omega))
theorem xt_decm {x : Nat} : nI x + Int32.ofInt (-1) = nI x - nI 1 := by
  rw [Int32.sub_eq_add_neg]
  rfl
theorem xt_orN (a b : Nat) : nI a ||| nI b = nI (a ||| b) := by
  apply Int32.toBitVec_inj.1
  show BitVec.ofNat 32 a ||| BitVec.ofNat 32 b = BitVec.ofNat 32 (a ||| b)
  apply BitVec.eq_of_getLsbD_eq
  intro i hi
  simp [hi]
theorem xt_or4 {a t : Nat} (ht : t < 4) : nI (a * 4) ||| nI t = nI (a * 4 + t) := by
  rw [xt_orN]
  have h := Nat.two_pow_add_eq_or_of_lt (i := 2) (b := t) ht a
  have e : a * 4 = 2 ^ 2 * a := by omega
  rw [e, ← h]
theorem xt_sm : ∀ n, n < 32 → ((nI n &&& 31).toBitVec.smod 32).toNat = n := by decide +kernel
theorem xt_and3 (C : xt_C p s m args c cc nL own D cI cL) {x : Nat} (hdg : decode cc pc = .ok (.iand, 1)) (h : x < 2 ^ 32) (k : W p l e R s m args below meth c H locs cells slots Q (F0 m (pc + 1) ls (.int (nI (x % 4)) :: rest))) : W p l e R s m args below meth c H locs cells slots Q (F0 m pc ls (.int (nI 3) :: .int (nI x) :: rest)) :=
  lv_iand C.1 C.2.1 hdg (by rw [pk_andN h (m := nI 3) 2 (by decide)]; exact k)
theorem xt_shl2 (C : xt_C p s m args c cc nL own D cI cL) {x : Nat} (hdg : decode cc pc = .ok (.ishl, 1)) (h : x * 4 < 2 ^ 32) (k : W p l e R s m args below meth c H locs cells slots Q (F0 m (pc + 1) ls (.int (nI (x * 4)) :: rest))) : W p l e R s m args below meth c H locs cells slots Q (F0 m pc ls (.int (nI 2) :: .int (nI x) :: rest)) :=
  lv_ishl C.1 C.2.1 hdg (by rw [pk_shlN (nI 2 &&& 31) 2 (xt_sm 2 (by decide)) h]; exact k)
theorem xt_ior4 (C : xt_C p s m args c cc nL own D cI cL) {x y : Nat} (hdg : decode cc pc = .ok (.ior, 1)) (h : y < 4) (k : W p l e R s m args below meth c H locs cells slots Q (F0 m (pc + 1) ls (.int (nI (x * 4 + y)) :: rest))) : W p l e R s m args below meth c H locs cells slots Q (F0 m pc ls (.int (nI y) :: .int (nI (x * 4)) :: rest)) :=
  lv_ior C.1 C.2.1 hdg (by rw [xt_or4 h]; exact k)
theorem xt_ishr (C : xt_C p s m args c cc nL own D cI cL) {x y : Nat} (hdg : decode cc pc = .ok (.ishr, 1)) (hx : x < 2 ^ 31) (hy : y < 32) (k : W p l e R s m args below meth c H locs cells slots Q (F0 m (pc + 1) ls (.int (nI (x / 2 ^ y)) :: rest))) : W p l e R s m args below meth c H locs cells slots Q (F0 m pc ls (.int (nI y) :: .int (nI x) :: rest)) :=
  lv_ishr C.1 C.2.1 hdg (by rw [pk_shrN hx (nI y &&& 31) y (xt_sm y hy)]; exact k)
end XT
/-! two worlds side by side (the law's): a call on one of them leaves the other -/
theorem xt_PL {D : va_G} {cl : List vw_C} {w1 w2 : va_W} {H : Heap} (h : va_P D cl (w1 ++ w2) H) : va_P D cl w1 H := fun k q hk =>
  h k q (by rw [List.getElem?_append_left (List.getElem?_eq_some_iff.mp hk).1]; exact hk)
theorem xt_PR {D : va_G} {cl : List vw_C} {w1 w2 : va_W} {H : Heap} (h : va_P D cl (w1 ++ w2) H) : va_P D cl w2 H := fun k q hk =>
  h (w1.length + k) q (by rw [List.getElem?_append_right (Nat.le_add_right _ _), Nat.add_sub_cancel_left]; exact hk)
theorem xt_aL {w1 w2 : va_W} {k : Nat} {q : Nat × va_E} (hk : w1[k]? = some q) : (w1 ++ w2)[k]? = some q := by
  rw [List.getElem?_append_left (List.getElem?_eq_some_iff.mp hk).1]; exact hk
theorem xt_aR {w1 w2 : va_W} {k : Nat} {q : Nat × va_E} (hk : w2[k]? = some q) : (w1 ++ w2)[w1.length + k]? = some q := by
  rw [List.getElem?_append_right (Nat.le_add_right _ _), Nat.add_sub_cancel_left]; exact hk
theorem xt_DL {A : Nat → Prop} {w1 w2 : va_W} (h : va_D A (w1 ++ w2)) : va_D A w1 :=
  ⟨fun i j p q hi hj e => h.1 i j p q (xt_aL hi) (xt_aL hj) e, fun k q hk => h.2 k q (xt_aL hk)⟩
theorem xt_DR {A : Nat → Prop} {w1 w2 : va_W} (h : va_D A (w1 ++ w2)) : va_D A w2 :=
  ⟨fun i j p q hi hj e => by have := h.1 _ _ p q (xt_aR hi) (xt_aR hj) e; omega, fun k q hk => h.2 _ q (xt_aR hk)⟩
theorem xt_ap {A : Nat → Prop} {w1 w2 : va_W} (h : va_D A (w1 ++ w2)) {i j : Nat} {p q : Nat × va_E} (hi : w1[i]? = some p) (hj : w2[j]? = some q) : p.1 ≠ q.1 := fun e => by
  have h1 := h.1 _ _ p q (xt_aL hi) (xt_aR hj) e
  have h2 := (List.getElem?_eq_some_iff.mp hi).1
  omega
theorem xt_out {D : va_G} {cl : List vw_C} {wc wo : va_W} {H : Heap} (hP : va_P D cl wo H) (hap : ∀ (i j : Nat) (p q : Nat × va_E), wc[i]? = some p → wo[j]? = some q → p.1 ≠ q.1) {k : Nat} {q : Nat × va_E} (hq : wo[k]? = some q) : q.1 < H.size ∧ ¬ va_A wc H.size q.1 := by
  refine ⟨(hP k q hq).lt, fun h => ?_⟩
  rcases h with ⟨j, e, h⟩ | h
  · exact hap j k (q.1, e) q h hq rfl
  · have := (hP k q hq).lt
    omega
theorem xt_keep {D : va_G} {cl : List vw_C} {wc wo : va_W} {H H1 : Heap} (hP : va_P D cl wo H) (hap : ∀ (i j : Nat) (p q : Nat × va_E), wc[i]? = some p → wo[j]? = some q → p.1 ≠ q.1) (hk : ∀ q : Nat, q < H.size → ¬ va_A wc H.size q → H1[q]? = H[q]?) : va_P D cl wo H1 :=
  hP.kept (fun _ q hq => hk q.1 (xt_out hP hap hq).1 (xt_out hP hap hq).2)
section XTF
variable {p : Program} {l : Launch} {e : Env} {R : Room} {s : State} {m : MethodId} {args : Array Value} {below : List Frame} {meth : Method} {c : Code} {H : Heap} {locs : List Loc} {cells slots : Nat} {Q : State → Prop}
variable {pc : Nat} {ls : Array Slot} {rest st0 : List Value} {D : va_G} {cI cL : ClassId} {A : Nat → Prop} {H0 : Heap} {w1 w2 : va_W}
theorem xt_frL (hA : ∀ q, H0.size ≤ q → A q) (w : xt_W D A H0 (w1 ++ w2) H locs) : ∀ q, va_A w1 H.size q → A q := fun q h => by
  rcases h with ⟨k, e, h⟩ | h
  · exact (xt_DL w.2.1).2 k _ h
  · exact hA q (Nat.le_trans w.2.2.1 h)
theorem xt_frR (hA : ∀ q, H0.size ≤ q → A q) (w : xt_W D A H0 (w1 ++ w2) H locs) : ∀ q, va_A w2 H.size q → A q := fun q h => by
  rcases h with ⟨k, e, h⟩ | h
  · exact (xt_DR w.2.1).2 k _ h
  · exact hA q (Nat.le_trans w.2.2.1 h)
theorem xt_joinL {w1' : va_W} {H1 : Heap} {locs1 : List Loc} (hA : ∀ q, H0.size ≤ q → A q) (w : xt_W D A H0 (w1 ++ w2) H locs) (hP1 : va_P D vwCl w1' H1) (hD1 : va_D (va_A w1 H.size) w1') (hk : ∀ q : Nat, q < H.size → ¬ va_A w1 H.size q → H1[q]? = H[q]?) (hS : va_S A H0 H1 locs1) : xt_W D A H0 (w1' ++ w2) H1 locs1 := by
  have hap : ∀ (i j : Nat) (p q : Nat × va_E), w1[i]? = some p → w2[j]? = some q → p.1 ≠ q.1 := fun i j p q h1 h2 => xt_ap w.2.1 h1 h2
  refine ⟨va_P.app hP1 (xt_keep (xt_PR w.1) hap hk), va_D.app (hD1.weaken (fun k q _ h => xt_frL hA w q.1 h)) (xt_DR w.2.1) (fun i j p q hi hj e => ?_), hS⟩
  exact (xt_out (xt_PR w.1) hap hj).2 (by rw [← e]; exact hD1.2 i p hi)
theorem xt_joinR {w2' : va_W} {H1 : Heap} {locs1 : List Loc} (hA : ∀ q, H0.size ≤ q → A q) (w : xt_W D A H0 (w1 ++ w2) H locs) (hP1 : va_P D vwCl w2' H1) (hD1 : va_D (va_A w2 H.size) w2') (hk : ∀ q : Nat, q < H.size → ¬ va_A w2 H.size q → H1[q]? = H[q]?) (hS : va_S A H0 H1 locs1) : xt_W D A H0 (w1 ++ w2') H1 locs1 := by
  have hap : ∀ (i j : Nat) (p q : Nat × va_E), w2[i]? = some p → w1[j]? = some q → p.1 ≠ q.1 := fun i j p q h1 h2 => (xt_ap w.2.1 h2 h1).symm
  refine ⟨va_P.app (xt_keep (xt_PL w.1) hap hk) hP1, va_D.app (xt_DL w.2.1) (hD1.weaken (fun k q _ h => xt_frR hA w q.1 h)) (fun i j p q hi hj e => ?_), hS⟩
  exact (xt_out (xt_PL w.1) hap hi).2 (by rw [e]; exact hD1.2 j q hj)
theorem xt_ciL {U : Type} {post : Int32 → U → Prop} {ws' : U → va_W} {av : Array Value} (hA : ∀ q, H0.size ≤ q → A q) (w : xt_W D A H0 (w1 ++ w2) H locs) (hr : va_Run p l e R s m args below meth c H locs cells slots 0 0 (F0 m pc ls st0) rest (xt_Qi D cI cL w1 post ws' H.size av) (va_A w1 H.size))
    (kk : ∀ (r : Int32) (u : U) (H1 : Heap) (locs1 : List Loc), post r u → xt_W D A H0 (ws' u ++ w2) H1 locs1 → W p l e R s m args below meth c H1 locs1 cells slots Q (F0 m (pc + 3) ls (.int r :: rest))) : W p l e R s m args below meth c H locs cells slots Q (F0 m pc ls st0) := by
  refine va_calli hr w.2.2 (fun q _ h => xt_frL hA w q h) (xt_frL hA w) (fun r u t H1 locs1 ht hvm hp hB hz hk hS => ?_)
  obtain ⟨hP1, hK1, hD1⟩ := hB
  rw [ht] at hP1
  exact kk r u H1 locs1 hp (xt_joinL hA w hP1 hD1 hk hS)
theorem xt_ciR {U : Type} {post : Int32 → U → Prop} {ws' : U → va_W} {av : Array Value} (hA : ∀ q, H0.size ≤ q → A q) (w : xt_W D A H0 (w1 ++ w2) H locs) (hr : va_Run p l e R s m args below meth c H locs cells slots 0 0 (F0 m pc ls st0) rest (xt_Qi D cI cL w2 post ws' H.size av) (va_A w2 H.size))
    (kk : ∀ (r : Int32) (u : U) (H1 : Heap) (locs1 : List Loc), post r u → xt_W D A H0 (w1 ++ ws' u) H1 locs1 → W p l e R s m args below meth c H1 locs1 cells slots Q (F0 m (pc + 3) ls (.int r :: rest))) : W p l e R s m args below meth c H locs cells slots Q (F0 m pc ls st0) := by
  refine va_calli hr w.2.2 (fun q _ h => xt_frR hA w q h) (xt_frR hA w) (fun r u t H1 locs1 ht hvm hp hB hz hk hS => ?_)
  obtain ⟨hP1, hK1, hD1⟩ := hB
  rw [ht] at hP1
  exact kk r u H1 locs1 hp (xt_joinR hA w hP1 hD1 hk hS)
theorem xt_clL {U : Type} {post : Int64 → U → Prop} {ws' : U → va_W} {av : Array Value} (hA : ∀ q, H0.size ≤ q → A q) (w : xt_W D A H0 (w1 ++ w2) H locs) (hr : va_Run p l e R s m args below meth c H locs cells slots 0 0 (F0 m pc ls st0) rest (xt_Ql D cI cL w1 post ws' H.size av) (va_A w1 H.size))
    (kk : ∀ (r : Int64) (u : U) (H1 : Heap) (locs1 : List Loc), post r u → xt_W D A H0 (ws' u ++ w2) H1 locs1 → W p l e R s m args below meth c H1 locs1 cells slots Q (F0 m (pc + 3) ls (.long r :: rest))) : W p l e R s m args below meth c H locs cells slots Q (F0 m pc ls st0) := by
  refine va_calll hr w.2.2 (fun q _ h => xt_frL hA w q h) (xt_frL hA w) (fun r u t H1 locs1 ht hvm hp hB hz hk hS => ?_)
  obtain ⟨hP1, hK1, hD1⟩ := hB
  rw [ht] at hP1
  exact kk r u H1 locs1 hp (xt_joinL hA w hP1 hD1 hk hS)
theorem xt_clR {U : Type} {post : Int64 → U → Prop} {ws' : U → va_W} {av : Array Value} (hA : ∀ q, H0.size ≤ q → A q) (w : xt_W D A H0 (w1 ++ w2) H locs) (hr : va_Run p l e R s m args below meth c H locs cells slots 0 0 (F0 m pc ls st0) rest (xt_Ql D cI cL w2 post ws' H.size av) (va_A w2 H.size))
    (kk : ∀ (r : Int64) (u : U) (H1 : Heap) (locs1 : List Loc), post r u → xt_W D A H0 (w1 ++ ws' u) H1 locs1 → W p l e R s m args below meth c H1 locs1 cells slots Q (F0 m (pc + 3) ls (.long r :: rest))) : W p l e R s m args below meth c H locs cells slots Q (F0 m pc ls st0) := by
  refine va_calll hr w.2.2 (fun q _ h => xt_frR hA w q h) (xt_frR hA w) (fun r u t H1 locs1 ht hvm hp hB hz hk hS => ?_)
  obtain ⟨hP1, hK1, hD1⟩ := hB
  rw [ht] at hP1
  exact kk r u H1 locs1 hp (xt_joinR hA w hP1 hD1 hk hS)
end XTF
