theorem xt_RAi {s : State} {D : va_G} {cl : List vw_C} {t1 t2 : List (ClassId × FieldType)} {i j : Nat} {a b : ClassId} {ty : FieldType} (h1 : va_K D cl t1 s) (h2 : va_K D cl t2 s) (e1 : t1[i]? = some (a, ty)) (e2 : t2[j]? = some (b, ty)) (hp : ∀ c : ClassId, va_RA s c ty → s.vm.findClass ("[" ++ ty.toString) = some c) : a = b :=
  Option.some.inj ((hp a (h1.2 i _ e1).2).symm.trans (hp b (h2.2 j _ e2).2))
section XTN
variable {p : Program} {l : Launch} {e : Env} {R : Room} {s : State} {m : MethodId} {args : Array Value} {below : List Frame} {meth : Method} {c : Code} {H : Heap} {locs : List Loc} {cells slots : Nat} {Q : State → Prop}
variable {cc : ByteArray} {pc nL : Nat} {ls : Array Slot} {rest st0 : List Value} {own : String} {D : va_G} {cI cL : ClassId} {A : Nat → Prop} {H0 : Heap} {ws : va_W} {a : Nat}
theorem xt_newi (C : xt_C p s m args c cc nL own D cI cL) (w : xt_W D A H0 ws H locs) (hA : ∀ q, H0.size ≤ q → A q) (N : Nat) (hN : N < 2 ^ 20) (hc : cells + 1 ≤ R.cells) (hs : slots + N ≤ R.slots) (hdg : decode cc pc = .ok (.newarray .int, 2))
    (kk : ∀ (q : Nat) (H1 : Heap), xt_W D A H0 (ws ++ [(q, xt_i cI N (fun _ => 0))]) H1 locs → W p l e R s m args below meth c H1 locs (cells + 1) (slots + N) Q (F0 m (pc + 2) ls (.ref q :: rest))) : W p l e R s m args below meth c H locs cells slots Q (F0 m pc ls (.int (nI N) :: rest)) := by
  refine va_newa (atype := .int) C.1 C.2.1 (C.t xt_ac_int) rfl C.K w.1 w.2.1 w.2.2 hA (a0 := (N, .inl (fun _ => nI 0))) (fun cA => ?_) (nI_pos (by omega)) (nI_clamp (by omega)) ?_ hc hs hdg (fun q cA H1 hK hP hD hS => ?_)
  · rw [vp_cell_i, nI_0]
    rfl
  · show N * 4 ≤ 536870912
    omega
  · have e : cA = cI := xt_RAi (i := 2) (j := 0) hK C.K rfl rfl (fun _ h => h)
    subst e
    exact kk q H1 ⟨hP, hD, hS⟩
theorem xt_newl (C : xt_C p s m args c cc nL own D cI cL) (w : xt_W D A H0 ws H locs) (hA : ∀ q, H0.size ≤ q → A q) (N : Nat) (hN : N < 2 ^ 20) (hc : cells + 1 ≤ R.cells) (hs : slots + N ≤ R.slots) (hdg : decode cc pc = .ok (.newarray .long, 2))
    (kk : ∀ (q : Nat) (H1 : Heap), xt_W D A H0 (ws ++ [(q, xt_l cL N (fun _ => 0))]) H1 locs → W p l e R s m args below meth c H1 locs (cells + 1) (slots + N) Q (F0 m (pc + 2) ls (.ref q :: rest))) : W p l e R s m args below meth c H locs cells slots Q (F0 m pc ls (.int (nI N) :: rest)) := by
  refine va_newa (atype := .long) C.1 C.2.1 (C.t xt_ac_long) rfl C.K w.1 w.2.1 w.2.2 hA (a0 := (N, .inr (.inl (fun _ => lN 0)))) (fun cA => ?_) (nI_pos (by omega)) (nI_clamp (by omega)) ?_ hc hs hdg (fun q cA H1 hK hP hD hS => ?_)
  · rw [vp_cell_l]
    rfl
  · show N * 8 ≤ 536870912
    omega
  · have e : cA = cL := xt_RAi (i := 2) (j := 1) hK C.K rfl rfl (fun _ h => h)
    subst e
    exact kk q H1 ⟨hP, hD, hS⟩
theorem xt_putF {T : u_T} {N ci idx : Nat} {fs : List Value} {v : Value} {ty : FieldType} (hin : ∀ w ∈ u_ws own T N, w ∈ xt_T) (ty0 : Nat → FieldType) (hty : ∀ k, k < N → parseFieldDescriptor (T k).2.2.1 = some (ty0 k)) (hnm : ∀ a, a < N → ∀ b, b < N → a ≠ b → (T a).2.1 ≠ (T b).2.1) (C : xt_C p s m args c cc nL own D cI cL) (hi : meth.name = "<init>") (w : xt_W D A H0 ws H locs) (q0 : Nat) (he : ws[q0]? = some (a, .inr (ci, fs))) (hc : vwCl[ci]? = some (own, T, N)) (k : Nat) (hk : k < N) (hd : (T k).1 = own) (hl : Cond.fieldLink own idx own (T k).2.1 (T k).2.2.1 ∈ xt_T) (hfin : (T k).2.2.2 = true) (hpd : parseFieldDescriptor (T k).2.2.1 = some ty) (hn : narrow ty v = v) (hfit : fits ty v = true) (hlen : k < fs.length) (hdg : decode cc pc = .ok (.putfield idx, 3))
    (kk : ∀ (H1 : Heap) (locs1 : List Loc), xt_W D A H0 (ws.set q0 (a, .inr (ci, fs.set k v))) H1 locs1 → W p l e R s m args below meth c H1 locs1 cells slots Q (F0 m (pc + 3) ls rest)) : W p l e R s m args below meth c H locs cells slots Q (F0 m pc ls (v :: .ref a :: rest)) :=
  va_putF C.1 C.2.1 C.2.2.2.2.1 hin ty0 hty hnm C.o C.K w.1 w.2.1 w.2.2 q0 he hc k hk (C.t hl) (fun x h => by rw [hd] at h; exact h) hfin hi hd hpd hn hfit hlen hdg (fun H1 locs1 hP hD hS => kk H1 locs1 ⟨hP, hD, hS⟩)
end XTN

set_option maxHeartbeats 4000000 in
set_option maxRecDepth 100000 in
theorem cx_init (l : Launch) (D : va_G) (cI cL : ClassId) (h0 : Nat) (sz : Nat) : Met l yX0_init (.code yX0_init cX0_init 1 none :: xt_T) { frames := 11, cells := 8, slots := 144, locals := 440 } (xt_P D cI cL [.ref h0] [(h0, .inr (0, [.int 0, .int 0, .null, .null, .int 0, .null, .null, .null, .int 0, .null, .null, .int 0, .null]))] sz) (va_Qv (fun (u : (Nat → Nat) × (Nat → Nat) × (Nat → Nat) × (Nat → Nat) × Nat × (Nat → Nat) × (Nat → Nat)) => u.1 0 = h0 ∧ (∀ j, j < 36 → u.2.1 j = 1) ∧ xq_ok 1 0 (u.2.1) (fun _ => 0) (u.2.2.1) (u.2.2.2.1) (u.2.2.2.2.1) (u.2.2.2.2.2.1) (u.2.2.2.2.2.2)) (fun u t => va_P D vwCl (xX (u.1) cI cL 1 1 0 (u.2.2.2.2.1) 0 (u.2.1) (fun _ => 0) (fun _ => 0) (u.2.2.1) (u.2.2.2.1) (u.2.2.2.2.2.1) (u.2.2.2.2.2.2) (fun _ => 0)) t.heap ∧ va_K D vwCl (xt_ty cI cL) t ∧ va_D (va_A [(h0, .inr (0, [.int 0, .int 0, .null, .null, .int 0, .null, .null, .null, .int 0, .null, .null, .int 0, .null]))] sz) (xX (u.1) cI cL 1 1 0 (u.2.2.2.2.1) 0 (u.2.1) (fun _ => 0) (fun _ => 0) (u.2.2.1) (u.2.2.2.1) (u.2.2.2.2.2.1) (u.2.2.2.2.2.2) (fun _ => 0))) (va_A [(h0, .inr (0, [.int 0, .int 0, .null, .null, .int 0, .null, .null, .null, .int 0, .null, .null, .int 0, .null]))] sz)) 8 144 (va_A [(h0, .inr (0, [.int 0, .int 0, .null, .null, .int 0, .null, .null, .null, .int 0, .null, .null, .int 0, .null]))] sz) := by
  refine Met.ofW (cc := cX0_init) (maxL := 1) (ret := none) (by decide) rfl ?_
  intro pg ev ss mi args below meth cd s₁ B hml hv
  obtain ⟨rfl, hsz, hP, hK, hD0⟩ := hv
  have hts := atoms_spec (ws := .code yX0_init cX0_init 1 none :: xt_T) B.pre
  have hown : ss.vm.findClass RX0 = some mi.cls := findClass_of_methodNamed B.named
  have hin : meth.name = "<init>" := (name_of_methodNamed B.named B.method).1
  have hr := B.returns
  have hlk := B.notSynchronized
  subst hsz
  have hD := hD0.self (sz := ss.heap.size)
  have hl := lv_entry [.ref h0] (n := 1) (Nat.le_of_ble_eq_true rfl)
  rw [lg_entry_eq]
  generalize (lg_sl ([.ref h0]) ++ List.replicate (1 - (lg_sl ([.ref h0])).length) Slot.unset).toArray = ls at hl ⊢
  have hl : lv_has ls 1 [(0, .ref h0)] := hl
  have C : xt_C pg ss mi _ cd cX0_init 1 RX0 D cI cL := ⟨B.exec, B.bytes, hml, hown, fun w h => hts w (List.mem_cons_of_mem _ h), hK⟩
  have hA : ∀ q, ss.heap.size ≤ q → va_A [(h0, .inr (0, [.int 0, .int 0, .null, .null, .int 0, .null, .null, .null, .int 0, .null, .null, .int 0, .null]))] ss.heap.size q := fun q h => Or.inr h
  have hW : xt_W D (va_A [(h0, .inr (0, [.int 0, .int 0, .null, .null, .int 0, .null, .null, .null, .int 0, .null, .null, .int 0, .null]))] ss.heap.size) ss.heap [(h0, .inr (0, [.int 0, .int 0, .null, .null, .int 0, .null, .null, .null, .int 0, .null, .null, .int 0, .null]))] ss.heap [] := ⟨hP, hD, va_S.rf⟩
  refine lv_aload_n C.1 C.2.1 dX0_init_0 rfl (lv_at hl 0 rfl) ?_
  refine W.objInit C.1 C.2.1 C.o (C.t xt_obX0.1) (C.t xt_obX0.2.1) (C.t xt_obX0.2.2) rfl (by rw [hml]; exact hl.1) rfl dX0_init_1 (Nat.le_of_ble_eq_true rfl) (Nat.le_of_ble_eq_true rfl) ?_
  refine W.eq (g2 := F0 mi 4 ls []) rfl ?_
  refine lv_aload_n C.1 C.2.1 dX0_init_4 rfl (lv_at hl 0 rfl) ?_
  refine xt_bipush C 36 dX0_init_5 (by decide +kernel) ?_
  refine xt_newi C hW hA 36 (by decide) (Nat.le_of_ble_eq_true rfl) (Nat.le_of_ble_eq_true rfl) dX0_init_7 (fun q1 H hW => ?_)
  replace hW : xt_W D (va_A [(h0, .inr (0, [.int 0, .int 0, .null, .null, .int 0, .null, .null, .null, .int 0, .null, .null, .int 0, .null]))] ss.heap.size) ss.heap [(h0, .inr (0, [.int 0, .int 0, .null, .null, .int 0, .null, .null, .null, .int 0, .null, .null, .int 0, .null])), (q1, xt_i cI 36 (fun _ => 0))] H _ := hW
  refine xt_putF (ty := (.array .int)) xt_inX0 tyX0 tyX0_ok nmX0 C hin hW 0 rfl rfl 2 (by decide) rfl flX0_weights rfl (by decide +kernel) rfl rfl (Nat.le_of_ble_eq_true rfl) dX0_init_9 (fun H locs hW => ?_)
  replace hW : xt_W D (va_A [(h0, .inr (0, [.int 0, .int 0, .null, .null, .int 0, .null, .null, .null, .int 0, .null, .null, .int 0, .null]))] ss.heap.size) ss.heap [(h0, .inr (0, [.int 0, .int 0, .ref q1, .null, .int 0, .null, .null, .null, .int 0, .null, .null, .int 0, .null])), (q1, xt_i cI 36 (fun _ => 0))] H locs := hW
  refine lv_aload_n C.1 C.2.1 dX0_init_12 rfl (lv_at hl 0 rfl) ?_
  refine xt_bipush C 36 dX0_init_13 (by decide +kernel) ?_
  refine xt_newi C hW hA 36 (by decide) (Nat.le_of_ble_eq_true rfl) (Nat.le_of_ble_eq_true rfl) dX0_init_15 (fun q2 H hW => ?_)
  replace hW : xt_W D (va_A [(h0, .inr (0, [.int 0, .int 0, .null, .null, .int 0, .null, .null, .null, .int 0, .null, .null, .int 0, .null]))] ss.heap.size) ss.heap [(h0, .inr (0, [.int 0, .int 0, .ref q1, .null, .int 0, .null, .null, .null, .int 0, .null, .null, .int 0, .null])), (q1, xt_i cI 36 (fun _ => 0)), (q2, xt_i cI 36 (fun _ => 0))] H _ := hW
  refine xt_putF (ty := (.array .int)) xt_inX0 tyX0 tyX0_ok nmX0 C hin hW 0 rfl rfl 3 (by decide) rfl flX0_learnedWeights rfl (by decide +kernel) rfl rfl (Nat.le_of_ble_eq_true rfl) dX0_init_17 (fun H locs hW => ?_)
  replace hW : xt_W D (va_A [(h0, .inr (0, [.int 0, .int 0, .null, .null, .int 0, .null, .null, .null, .int 0, .null, .null, .int 0, .null]))] ss.heap.size) ss.heap [(h0, .inr (0, [.int 0, .int 0, .ref q1, .ref q2, .int 0, .null, .null, .null, .int 0, .null, .null, .int 0, .null])), (q1, xt_i cI 36 (fun _ => 0)), (q2, xt_i cI 36 (fun _ => 0))] H locs := hW
  refine lv_aload_n C.1 C.2.1 dX0_init_20 rfl (lv_at hl 0 rfl) ?_
  refine xt_bipush C 6 dX0_init_21 (by decide +kernel) ?_
  refine xt_newi C hW hA 6 (by decide) (Nat.le_of_ble_eq_true rfl) (Nat.le_of_ble_eq_true rfl) dX0_init_23 (fun q3 H hW => ?_)
  replace hW : xt_W D (va_A [(h0, .inr (0, [.int 0, .int 0, .null, .null, .int 0, .null, .null, .null, .int 0, .null, .null, .int 0, .null]))] ss.heap.size) ss.heap [(h0, .inr (0, [.int 0, .int 0, .ref q1, .ref q2, .int 0, .null, .null, .null, .int 0, .null, .null, .int 0, .null])), (q1, xt_i cI 36 (fun _ => 0)), (q2, xt_i cI 36 (fun _ => 0)), (q3, xt_i cI 6 (fun _ => 0))] H _ := hW
  refine xt_putF (ty := (.array .int)) xt_inX0 tyX0 tyX0_ok nmX0 C hin hW 0 rfl rfl 5 (by decide) rfl flX0_seenSymbols rfl (by decide +kernel) rfl rfl (Nat.le_of_ble_eq_true rfl) dX0_init_25 (fun H locs hW => ?_)
  replace hW : xt_W D (va_A [(h0, .inr (0, [.int 0, .int 0, .null, .null, .int 0, .null, .null, .null, .int 0, .null, .null, .int 0, .null]))] ss.heap.size) ss.heap [(h0, .inr (0, [.int 0, .int 0, .ref q1, .ref q2, .int 0, .ref q3, .null, .null, .int 0, .null, .null, .int 0, .null])), (q1, xt_i cI 36 (fun _ => 0)), (q2, xt_i cI 36 (fun _ => 0)), (q3, xt_i cI 6 (fun _ => 0))] H locs := hW
  refine lv_aload_n C.1 C.2.1 dX0_init_28 rfl (lv_at hl 0 rfl) ?_
  refine xt_bipush C 18 dX0_init_29 (by decide +kernel) ?_
  refine xt_newl C hW hA 18 (by decide) (Nat.le_of_ble_eq_true rfl) (Nat.le_of_ble_eq_true rfl) dX0_init_31 (fun q4 H hW => ?_)
  replace hW : xt_W D (va_A [(h0, .inr (0, [.int 0, .int 0, .null, .null, .int 0, .null, .null, .null, .int 0, .null, .null, .int 0, .null]))] ss.heap.size) ss.heap [(h0, .inr (0, [.int 0, .int 0, .ref q1, .ref q2, .int 0, .ref q3, .null, .null, .int 0, .null, .null, .int 0, .null])), (q1, xt_i cI 36 (fun _ => 0)), (q2, xt_i cI 36 (fun _ => 0)), (q3, xt_i cI 6 (fun _ => 0)), (q4, xt_l cL 18 (fun _ => 0))] H _ := hW
  refine xt_putF (ty := (.array .long)) xt_inX0 tyX0 tyX0_ok nmX0 C hin hW 0 rfl rfl 6 (by decide) rfl flX0_sumsBefore rfl (by decide +kernel) rfl rfl (Nat.le_of_ble_eq_true rfl) dX0_init_33 (fun H locs hW => ?_)
  replace hW : xt_W D (va_A [(h0, .inr (0, [.int 0, .int 0, .null, .null, .int 0, .null, .null, .null, .int 0, .null, .null, .int 0, .null]))] ss.heap.size) ss.heap [(h0, .inr (0, [.int 0, .int 0, .ref q1, .ref q2, .int 0, .ref q3, .ref q4, .null, .int 0, .null, .null, .int 0, .null])), (q1, xt_i cI 36 (fun _ => 0)), (q2, xt_i cI 36 (fun _ => 0)), (q3, xt_i cI 6 (fun _ => 0)), (q4, xt_l cL 18 (fun _ => 0))] H locs := hW
  refine lv_aload_n C.1 C.2.1 dX0_init_36 rfl (lv_at hl 0 rfl) ?_
  refine xt_bipush C 18 dX0_init_37 (by decide +kernel) ?_
  refine xt_newl C hW hA 18 (by decide) (Nat.le_of_ble_eq_true rfl) (Nat.le_of_ble_eq_true rfl) dX0_init_39 (fun q5 H hW => ?_)
  replace hW : xt_W D (va_A [(h0, .inr (0, [.int 0, .int 0, .null, .null, .int 0, .null, .null, .null, .int 0, .null, .null, .int 0, .null]))] ss.heap.size) ss.heap [(h0, .inr (0, [.int 0, .int 0, .ref q1, .ref q2, .int 0, .ref q3, .ref q4, .null, .int 0, .null, .null, .int 0, .null])), (q1, xt_i cI 36 (fun _ => 0)), (q2, xt_i cI 36 (fun _ => 0)), (q3, xt_i cI 6 (fun _ => 0)), (q4, xt_l cL 18 (fun _ => 0)), (q5, xt_l cL 18 (fun _ => 0))] H _ := hW
  refine xt_putF (ty := (.array .long)) xt_inX0 tyX0 tyX0_ok nmX0 C hin hW 0 rfl rfl 7 (by decide) rfl flX0_sumsBehind rfl (by decide +kernel) rfl rfl (Nat.le_of_ble_eq_true rfl) dX0_init_41 (fun H locs hW => ?_)
  replace hW : xt_W D (va_A [(h0, .inr (0, [.int 0, .int 0, .null, .null, .int 0, .null, .null, .null, .int 0, .null, .null, .int 0, .null]))] ss.heap.size) ss.heap [(h0, .inr (0, [.int 0, .int 0, .ref q1, .ref q2, .int 0, .ref q3, .ref q4, .ref q5, .int 0, .null, .null, .int 0, .null])), (q1, xt_i cI 36 (fun _ => 0)), (q2, xt_i cI 36 (fun _ => 0)), (q3, xt_i cI 6 (fun _ => 0)), (q4, xt_l cL 18 (fun _ => 0)), (q5, xt_l cL 18 (fun _ => 0))] H locs := hW
  refine lv_aload_n C.1 C.2.1 dX0_init_44 rfl (lv_at hl 0 rfl) ?_
  refine xt_bipush C 12 dX0_init_45 (by decide +kernel) ?_
  refine xt_newl C hW hA 12 (by decide) (Nat.le_of_ble_eq_true rfl) (Nat.le_of_ble_eq_true rfl) dX0_init_47 (fun q6 H hW => ?_)
  replace hW : xt_W D (va_A [(h0, .inr (0, [.int 0, .int 0, .null, .null, .int 0, .null, .null, .null, .int 0, .null, .null, .int 0, .null]))] ss.heap.size) ss.heap [(h0, .inr (0, [.int 0, .int 0, .ref q1, .ref q2, .int 0, .ref q3, .ref q4, .ref q5, .int 0, .null, .null, .int 0, .null])), (q1, xt_i cI 36 (fun _ => 0)), (q2, xt_i cI 36 (fun _ => 0)), (q3, xt_i cI 6 (fun _ => 0)), (q4, xt_l cL 18 (fun _ => 0)), (q5, xt_l cL 18 (fun _ => 0)), (q6, xt_l cL 12 (fun _ => 0))] H _ := hW
  refine xt_putF (ty := (.array .long)) xt_inX0 tyX0 tyX0_ok nmX0 C hin hW 0 rfl rfl 9 (by decide) rfl flX0_rankedWeights rfl (by decide +kernel) rfl rfl (Nat.le_of_ble_eq_true rfl) dX0_init_49 (fun H locs hW => ?_)
  replace hW : xt_W D (va_A [(h0, .inr (0, [.int 0, .int 0, .null, .null, .int 0, .null, .null, .null, .int 0, .null, .null, .int 0, .null]))] ss.heap.size) ss.heap [(h0, .inr (0, [.int 0, .int 0, .ref q1, .ref q2, .int 0, .ref q3, .ref q4, .ref q5, .int 0, .ref q6, .null, .int 0, .null])), (q1, xt_i cI 36 (fun _ => 0)), (q2, xt_i cI 36 (fun _ => 0)), (q3, xt_i cI 6 (fun _ => 0)), (q4, xt_l cL 18 (fun _ => 0)), (q5, xt_l cL 18 (fun _ => 0)), (q6, xt_l cL 12 (fun _ => 0))] H locs := hW
  refine lv_aload_n C.1 C.2.1 dX0_init_52 rfl (lv_at hl 0 rfl) ?_
  refine xt_bipush C 12 dX0_init_53 (by decide +kernel) ?_
  refine xt_newi C hW hA 12 (by decide) (Nat.le_of_ble_eq_true rfl) (Nat.le_of_ble_eq_true rfl) dX0_init_55 (fun q7 H hW => ?_)
  replace hW : xt_W D (va_A [(h0, .inr (0, [.int 0, .int 0, .null, .null, .int 0, .null, .null, .null, .int 0, .null, .null, .int 0, .null]))] ss.heap.size) ss.heap [(h0, .inr (0, [.int 0, .int 0, .ref q1, .ref q2, .int 0, .ref q3, .ref q4, .ref q5, .int 0, .ref q6, .null, .int 0, .null])), (q1, xt_i cI 36 (fun _ => 0)), (q2, xt_i cI 36 (fun _ => 0)), (q3, xt_i cI 6 (fun _ => 0)), (q4, xt_l cL 18 (fun _ => 0)), (q5, xt_l cL 18 (fun _ => 0)), (q6, xt_l cL 12 (fun _ => 0)), (q7, xt_i cI 12 (fun _ => 0))] H _ := hW
  refine xt_putF (ty := (.array .int)) xt_inX0 tyX0 tyX0_ok nmX0 C hin hW 0 rfl rfl 10 (by decide) rfl flX0_rankedWays rfl (by decide +kernel) rfl rfl (Nat.le_of_ble_eq_true rfl) dX0_init_57 (fun H locs hW => ?_)
  replace hW : xt_W D (va_A [(h0, .inr (0, [.int 0, .int 0, .null, .null, .int 0, .null, .null, .null, .int 0, .null, .null, .int 0, .null]))] ss.heap.size) ss.heap [(h0, .inr (0, [.int 0, .int 0, .ref q1, .ref q2, .int 0, .ref q3, .ref q4, .ref q5, .int 0, .ref q6, .ref q7, .int 0, .null])), (q1, xt_i cI 36 (fun _ => 0)), (q2, xt_i cI 36 (fun _ => 0)), (q3, xt_i cI 6 (fun _ => 0)), (q4, xt_l cL 18 (fun _ => 0)), (q5, xt_l cL 18 (fun _ => 0)), (q6, xt_l cL 12 (fun _ => 0)), (q7, xt_i cI 12 (fun _ => 0))] H locs := hW
  refine lv_aload_n C.1 C.2.1 dX0_init_60 rfl (lv_at hl 0 rfl) ?_
  refine xt_bipush C 6 dX0_init_61 (by decide +kernel) ?_
  refine xt_newi C hW hA 6 (by decide) (Nat.le_of_ble_eq_true rfl) (Nat.le_of_ble_eq_true rfl) dX0_init_63 (fun q8 H hW => ?_)
  replace hW : xt_W D (va_A [(h0, .inr (0, [.int 0, .int 0, .null, .null, .int 0, .null, .null, .null, .int 0, .null, .null, .int 0, .null]))] ss.heap.size) ss.heap [(h0, .inr (0, [.int 0, .int 0, .ref q1, .ref q2, .int 0, .ref q3, .ref q4, .ref q5, .int 0, .ref q6, .ref q7, .int 0, .null])), (q1, xt_i cI 36 (fun _ => 0)), (q2, xt_i cI 36 (fun _ => 0)), (q3, xt_i cI 6 (fun _ => 0)), (q4, xt_l cL 18 (fun _ => 0)), (q5, xt_l cL 18 (fun _ => 0)), (q6, xt_l cL 12 (fun _ => 0)), (q7, xt_i cI 12 (fun _ => 0)), (q8, xt_i cI 6 (fun _ => 0))] H _ := hW
  refine xt_putF (ty := (.array .int)) xt_inX0 tyX0 tyX0_ok nmX0 C hin hW 0 rfl rfl 12 (by decide) rfl flX0_drawnStates rfl (by decide +kernel) rfl rfl (Nat.le_of_ble_eq_true rfl) dX0_init_65 (fun H locs hW => ?_)
  replace hW : xt_W D (va_A [(h0, .inr (0, [.int 0, .int 0, .null, .null, .int 0, .null, .null, .null, .int 0, .null, .null, .int 0, .null]))] ss.heap.size) ss.heap [(h0, .inr (0, [.int 0, .int 0, .ref q1, .ref q2, .int 0, .ref q3, .ref q4, .ref q5, .int 0, .ref q6, .ref q7, .int 0, .ref q8])), (q1, xt_i cI 36 (fun _ => 0)), (q2, xt_i cI 36 (fun _ => 0)), (q3, xt_i cI 6 (fun _ => 0)), (q4, xt_l cL 18 (fun _ => 0)), (q5, xt_l cL 18 (fun _ => 0)), (q6, xt_l cL 12 (fun _ => 0)), (q7, xt_i cI 12 (fun _ => 0)), (q8, xt_i cI 6 (fun _ => 0))] H locs := hW
  refine lv_aload_n C.1 C.2.1 dX0_init_68 rfl (lv_at hl 0 rfl) ?_
  refine xt_iconst C 1 dX0_init_69 (by decide +kernel) ?_
  refine xt_iconst C 1 dX0_init_70 (by decide +kernel) ?_
  refine W.widen (k := 8) (n := 144) (by decide) (by decide) ?_
  replace hW : xt_W D (va_A [(h0, .inr (0, [.int 0, .int 0, .null, .null, .int 0, .null, .null, .null, .int 0, .null, .null, .int 0, .null]))] ss.heap.size) ss.heap (xX (fun k => [h0, q1, q2, q3, q4, q5, q6, q7, q8].getD k 0) cI cL 0 0 0 0 0 (fun _ => 0) (fun _ => 0) (fun _ => 0) (fun _ => 0) (fun _ => 0) (fun _ => 0) (fun _ => 0) (fun _ => 0)) H locs := hW
  refine xt_cvd hA hW (xt_runV C hW.1 hW.2.1 cwX0_X0_startAnew (cx_startAnew l D cI cL (fun k => [h0, q1, q2, q3, q4, q5, q6, q7, q8].getD k 0) 0 0 0 0 0 (fun _ => 0) (fun _ => 0) (fun _ => 0) (fun _ => 0) (fun _ => 0) (fun _ => 0) (fun _ => 0) (fun _ => 0) 1 1 (by decide) (by decide)) rfl rfl rfl hl.1 (rest := []) rfl (Nat.le_of_ble_eq_true rfl) ⟨(Nat.le_of_ble_eq_true rfl), (Nat.le_of_ble_eq_true rfl)⟩ ⟨(Nat.le_of_ble_eq_true rfl), (Nat.le_of_ble_eq_true rfl)⟩ dX0_init_71) (fun u H locs hp hW => ?_)
  obtain ⟨w, sb, sh, wc, rw, rk⟩ := u
  replace hW : xt_W D (va_A [(h0, .inr (0, [.int 0, .int 0, .null, .null, .int 0, .null, .null, .null, .int 0, .null, .null, .int 0, .null]))] ss.heap.size) ss.heap (xX (fun k => [h0, q1, q2, q3, q4, q5, q6, q7, q8].getD k 0) cI cL 1 1 0 wc 0 w (fun _ => 0) (fun _ => 0) sb sh rw rk (fun _ => 0)) H locs := hW
  exact W.vret C.1 C.2.1 hr (fun t ht hWm => ⟨⟨((fun k => [h0, q1, q2, q3, q4, q5, q6, q7, q8].getD k 0), w, sb, sh, wc, rw, rk), rfl, ⟨rfl, hp.1, hp.2⟩, by rw [ht]; exact hW.1, va_K.moved hWm.alike C.K, hW.2.1⟩, hW.2.2.F ht⟩) hW.2.2.2.2 dX0_init_74 hlk

set_option maxHeartbeats 4000000 in
set_option maxRecDepth 100000 in
theorem cm_init (l : Launch) (D : va_G) (cI cL : ClassId) (h0 : Nat) (sz : Nat) : Met l yX1_init (.code yX1_init cX1_init 1 none :: xt_T) { frames := 2, cells := 6, slots := 795, locals := 80 } (xt_P D cI cL [.ref h0] [(h0, .inr (1, [.int 0, .int 0, .null, .int 0, .null, .null, .int 0, .int 0, .null, .null, .null, .long 0, .long 0]))] sz) (va_Qv (fun (u : (Nat → Nat) × (Nat → Nat)) => u.1 0 = h0 ∧ (∀ j, j < 24 → u.2 j = 1)) (fun u t => va_P D vwCl (xM u.1 cI cL 1 1 0 0 0 0 0 u.2 (fun _ => 0) (fun _ => 0) (fun _ => 0) (fun _ => 0) (fun _ => 0)) t.heap ∧ va_K D vwCl (xt_ty cI cL) t ∧ va_D (va_A [(h0, .inr (1, [.int 0, .int 0, .null, .int 0, .null, .null, .int 0, .int 0, .null, .null, .null, .long 0, .long 0]))] sz) (xM u.1 cI cL 1 1 0 0 0 0 0 u.2 (fun _ => 0) (fun _ => 0) (fun _ => 0) (fun _ => 0) (fun _ => 0))) (va_A [(h0, .inr (1, [.int 0, .int 0, .null, .int 0, .null, .null, .int 0, .int 0, .null, .null, .null, .long 0, .long 0]))] sz)) 6 795 (va_A [(h0, .inr (1, [.int 0, .int 0, .null, .int 0, .null, .null, .int 0, .int 0, .null, .null, .null, .long 0, .long 0]))] sz) := by
  refine Met.ofW (cc := cX1_init) (maxL := 1) (ret := none) (by decide) rfl ?_
  intro pg ev ss mi args below meth cd s₁ B hml hv
  obtain ⟨rfl, hsz, hP, hK, hD0⟩ := hv
  have hts := atoms_spec (ws := .code yX1_init cX1_init 1 none :: xt_T) B.pre
  have hown : ss.vm.findClass RX1 = some mi.cls := findClass_of_methodNamed B.named
  have hin : meth.name = "<init>" := (name_of_methodNamed B.named B.method).1
  have hr := B.returns
  have hlk := B.notSynchronized
  subst hsz
  have hD := hD0.self (sz := ss.heap.size)
  have hl := lv_entry [.ref h0] (n := 1) (Nat.le_of_ble_eq_true rfl)
  rw [lg_entry_eq]
  generalize (lg_sl ([.ref h0]) ++ List.replicate (1 - (lg_sl ([.ref h0])).length) Slot.unset).toArray = ls at hl ⊢
  have hl : lv_has ls 1 [(0, .ref h0)] := hl
  have C : xt_C pg ss mi _ cd cX1_init 1 RX1 D cI cL := ⟨B.exec, B.bytes, hml, hown, fun w h => hts w (List.mem_cons_of_mem _ h), hK⟩
  have hA : ∀ q, ss.heap.size ≤ q → va_A [(h0, .inr (1, [.int 0, .int 0, .null, .int 0, .null, .null, .int 0, .int 0, .null, .null, .null, .long 0, .long 0]))] ss.heap.size q := fun q h => Or.inr h
  have hW : xt_W D (va_A [(h0, .inr (1, [.int 0, .int 0, .null, .int 0, .null, .null, .int 0, .int 0, .null, .null, .null, .long 0, .long 0]))] ss.heap.size) ss.heap [(h0, .inr (1, [.int 0, .int 0, .null, .int 0, .null, .null, .int 0, .int 0, .null, .null, .null, .long 0, .long 0]))] ss.heap [] := ⟨hP, hD, va_S.rf⟩
  refine lv_aload_n C.1 C.2.1 dX1_init_0 rfl (lv_at hl 0 rfl) ?_
  refine W.objInit C.1 C.2.1 C.o (C.t xt_obX1.1) (C.t xt_obX1.2.1) (C.t xt_obX1.2.2) rfl (by rw [hml]; exact hl.1) rfl dX1_init_1 (Nat.le_of_ble_eq_true rfl) (Nat.le_of_ble_eq_true rfl) ?_
  refine W.eq (g2 := F0 mi 4 ls []) rfl ?_
  refine lv_aload_n C.1 C.2.1 dX1_init_4 rfl (lv_at hl 0 rfl) ?_
  refine xt_iconst C 1 dX1_init_5 (by decide +kernel) ?_
  refine xt_put (ty := .int) xt_inX1 tyX1 tyX1_ok nmX1 C hW 0 rfl rfl 0 (by decide) rfl flX1_states rfl (by decide +kernel) rfl rfl (Nat.le_of_ble_eq_true rfl) dX1_init_6 (fun H locs hW => ?_)
  replace hW : xt_W D (va_A [(h0, .inr (1, [.int 0, .int 0, .null, .int 0, .null, .null, .int 0, .int 0, .null, .null, .null, .long 0, .long 0]))] ss.heap.size) ss.heap [(h0, .inr (1, [.int (nI 1), .int 0, .null, .int 0, .null, .null, .int 0, .int 0, .null, .null, .null, .long 0, .long 0]))] H locs := hW
  refine lv_aload_n C.1 C.2.1 dX1_init_9 rfl (lv_at hl 0 rfl) ?_
  refine xt_iconst C 1 dX1_init_10 (by decide +kernel) ?_
  refine xt_put (ty := .int) xt_inX1 tyX1 tyX1_ok nmX1 C hW 0 rfl rfl 1 (by decide) rfl flX1_symbols rfl (by decide +kernel) rfl rfl (Nat.le_of_ble_eq_true rfl) dX1_init_11 (fun H locs hW => ?_)
  replace hW : xt_W D (va_A [(h0, .inr (1, [.int 0, .int 0, .null, .int 0, .null, .null, .int 0, .int 0, .null, .null, .null, .long 0, .long 0]))] ss.heap.size) ss.heap [(h0, .inr (1, [.int (nI 1), .int (nI 1), .null, .int 0, .null, .null, .int 0, .int 0, .null, .null, .null, .long 0, .long 0]))] H locs := hW
  refine lv_aload_n C.1 C.2.1 dX1_init_14 rfl (lv_at hl 0 rfl) ?_
  refine xt_bipush C 24 dX1_init_15 (by decide +kernel) ?_
  refine xt_newi C hW hA 24 (by decide) (Nat.le_of_ble_eq_true rfl) (Nat.le_of_ble_eq_true rfl) dX1_init_17 (fun q1 H hW => ?_)
  replace hW : xt_W D (va_A [(h0, .inr (1, [.int 0, .int 0, .null, .int 0, .null, .null, .int 0, .int 0, .null, .null, .null, .long 0, .long 0]))] ss.heap.size) ss.heap [(h0, .inr (1, [.int (nI 1), .int (nI 1), .null, .int 0, .null, .null, .int 0, .int 0, .null, .null, .null, .long 0, .long 0])), (q1, xt_i cI 24 (fun _ => 0))] H _ := hW
  refine xt_put (ty := (.array .int)) xt_inX1 tyX1 tyX1_ok nmX1 C hW 0 rfl rfl 2 (by decide) rfl flX1_weights rfl (by decide +kernel) rfl rfl (Nat.le_of_ble_eq_true rfl) dX1_init_19 (fun H locs hW => ?_)
  replace hW : xt_W D (va_A [(h0, .inr (1, [.int 0, .int 0, .null, .int 0, .null, .null, .int 0, .int 0, .null, .null, .null, .long 0, .long 0]))] ss.heap.size) ss.heap [(h0, .inr (1, [.int (nI 1), .int (nI 1), .ref q1, .int 0, .null, .null, .int 0, .int 0, .null, .null, .null, .long 0, .long 0])), (q1, xt_i cI 24 (fun _ => 0))] H locs := hW
  refine lv_aload_n C.1 C.2.1 dX1_init_22 rfl (lv_at hl 0 rfl) ?_
  refine xt_bipush C 6 dX1_init_23 (by decide +kernel) ?_
  refine xt_newi C hW hA 6 (by decide) (Nat.le_of_ble_eq_true rfl) (Nat.le_of_ble_eq_true rfl) dX1_init_25 (fun q2 H hW => ?_)
  replace hW : xt_W D (va_A [(h0, .inr (1, [.int 0, .int 0, .null, .int 0, .null, .null, .int 0, .int 0, .null, .null, .null, .long 0, .long 0]))] ss.heap.size) ss.heap [(h0, .inr (1, [.int (nI 1), .int (nI 1), .ref q1, .int 0, .null, .null, .int 0, .int 0, .null, .null, .null, .long 0, .long 0])), (q1, xt_i cI 24 (fun _ => 0)), (q2, xt_i cI 6 (fun _ => 0))] H _ := hW
  refine xt_put (ty := (.array .int)) xt_inX1 tyX1 tyX1_ok nmX1 C hW 0 rfl rfl 4 (by decide) rfl flX1_row rfl (by decide +kernel) rfl rfl (Nat.le_of_ble_eq_true rfl) dX1_init_27 (fun H locs hW => ?_)
  replace hW : xt_W D (va_A [(h0, .inr (1, [.int 0, .int 0, .null, .int 0, .null, .null, .int 0, .int 0, .null, .null, .null, .long 0, .long 0]))] ss.heap.size) ss.heap [(h0, .inr (1, [.int (nI 1), .int (nI 1), .ref q1, .int 0, .ref q2, .null, .int 0, .int 0, .null, .null, .null, .long 0, .long 0])), (q1, xt_i cI 24 (fun _ => 0)), (q2, xt_i cI 6 (fun _ => 0))] H locs := hW
  refine lv_aload_n C.1 C.2.1 dX1_init_30 rfl (lv_at hl 0 rfl) ?_
  refine xt_bipush C 6 dX1_init_31 (by decide +kernel) ?_
  refine xt_newi C hW hA 6 (by decide) (Nat.le_of_ble_eq_true rfl) (Nat.le_of_ble_eq_true rfl) dX1_init_33 (fun q3 H hW => ?_)
  replace hW : xt_W D (va_A [(h0, .inr (1, [.int 0, .int 0, .null, .int 0, .null, .null, .int 0, .int 0, .null, .null, .null, .long 0, .long 0]))] ss.heap.size) ss.heap [(h0, .inr (1, [.int (nI 1), .int (nI 1), .ref q1, .int 0, .ref q2, .null, .int 0, .int 0, .null, .null, .null, .long 0, .long 0])), (q1, xt_i cI 24 (fun _ => 0)), (q2, xt_i cI 6 (fun _ => 0)), (q3, xt_i cI 6 (fun _ => 0))] H _ := hW
  refine xt_put (ty := (.array .int)) xt_inX1 tyX1 tyX1_ok nmX1 C hW 0 rfl rfl 5 (by decide) rfl flX1_way rfl (by decide +kernel) rfl rfl (Nat.le_of_ble_eq_true rfl) dX1_init_35 (fun H locs hW => ?_)
  replace hW : xt_W D (va_A [(h0, .inr (1, [.int 0, .int 0, .null, .int 0, .null, .null, .int 0, .int 0, .null, .null, .null, .long 0, .long 0]))] ss.heap.size) ss.heap [(h0, .inr (1, [.int (nI 1), .int (nI 1), .ref q1, .int 0, .ref q2, .ref q3, .int 0, .int 0, .null, .null, .null, .long 0, .long 0])), (q1, xt_i cI 24 (fun _ => 0)), (q2, xt_i cI 6 (fun _ => 0)), (q3, xt_i cI 6 (fun _ => 0))] H locs := hW
  refine lv_aload_n C.1 C.2.1 dX1_init_38 rfl (lv_at hl 0 rfl) ?_
  refine xt_bipush C 6 dX1_init_39 (by decide +kernel) ?_
  refine xt_newi C hW hA 6 (by decide) (Nat.le_of_ble_eq_true rfl) (Nat.le_of_ble_eq_true rfl) dX1_init_41 (fun q4 H hW => ?_)
  replace hW : xt_W D (va_A [(h0, .inr (1, [.int 0, .int 0, .null, .int 0, .null, .null, .int 0, .int 0, .null, .null, .null, .long 0, .long 0]))] ss.heap.size) ss.heap [(h0, .inr (1, [.int (nI 1), .int (nI 1), .ref q1, .int 0, .ref q2, .ref q3, .int 0, .int 0, .null, .null, .null, .long 0, .long 0])), (q1, xt_i cI 24 (fun _ => 0)), (q2, xt_i cI 6 (fun _ => 0)), (q3, xt_i cI 6 (fun _ => 0)), (q4, xt_i cI 6 (fun _ => 0))] H _ := hW
  refine xt_put (ty := (.array .int)) xt_inX1 tyX1 tyX1_ok nmX1 C hW 0 rfl rfl 8 (by decide) rfl flX1_chosen rfl (by decide +kernel) rfl rfl (Nat.le_of_ble_eq_true rfl) dX1_init_43 (fun H locs hW => ?_)
  replace hW : xt_W D (va_A [(h0, .inr (1, [.int 0, .int 0, .null, .int 0, .null, .null, .int 0, .int 0, .null, .null, .null, .long 0, .long 0]))] ss.heap.size) ss.heap [(h0, .inr (1, [.int (nI 1), .int (nI 1), .ref q1, .int 0, .ref q2, .ref q3, .int 0, .int 0, .ref q4, .null, .null, .long 0, .long 0])), (q1, xt_i cI 24 (fun _ => 0)), (q2, xt_i cI 6 (fun _ => 0)), (q3, xt_i cI 6 (fun _ => 0)), (q4, xt_i cI 6 (fun _ => 0))] H locs := hW
  refine lv_aload_n C.1 C.2.1 dX1_init_46 rfl (lv_at hl 0 rfl) ?_
  refine xt_sipush C 729 dX1_init_47 (by decide +kernel) ?_
  refine xt_newl C hW hA 729 (by decide) (Nat.le_of_ble_eq_true rfl) (Nat.le_of_ble_eq_true rfl) dX1_init_50 (fun q5 H hW => ?_)
  replace hW : xt_W D (va_A [(h0, .inr (1, [.int 0, .int 0, .null, .int 0, .null, .null, .int 0, .int 0, .null, .null, .null, .long 0, .long 0]))] ss.heap.size) ss.heap [(h0, .inr (1, [.int (nI 1), .int (nI 1), .ref q1, .int 0, .ref q2, .ref q3, .int 0, .int 0, .ref q4, .null, .null, .long 0, .long 0])), (q1, xt_i cI 24 (fun _ => 0)), (q2, xt_i cI 6 (fun _ => 0)), (q3, xt_i cI 6 (fun _ => 0)), (q4, xt_i cI 6 (fun _ => 0)), (q5, xt_l cL 729 (fun _ => 0))] H _ := hW
  refine xt_put (ty := (.array .long)) xt_inX1 tyX1 tyX1_ok nmX1 C hW 0 rfl rfl 9 (by decide) rfl flX1_all rfl (by decide +kernel) rfl rfl (Nat.le_of_ble_eq_true rfl) dX1_init_52 (fun H locs hW => ?_)
  replace hW : xt_W D (va_A [(h0, .inr (1, [.int 0, .int 0, .null, .int 0, .null, .null, .int 0, .int 0, .null, .null, .null, .long 0, .long 0]))] ss.heap.size) ss.heap [(h0, .inr (1, [.int (nI 1), .int (nI 1), .ref q1, .int 0, .ref q2, .ref q3, .int 0, .int 0, .ref q4, .ref q5, .null, .long 0, .long 0])), (q1, xt_i cI 24 (fun _ => 0)), (q2, xt_i cI 6 (fun _ => 0)), (q3, xt_i cI 6 (fun _ => 0)), (q4, xt_i cI 6 (fun _ => 0)), (q5, xt_l cL 729 (fun _ => 0))] H locs := hW
  refine lv_aload_n C.1 C.2.1 dX1_init_55 rfl (lv_at hl 0 rfl) ?_
  refine xt_bipush C 24 dX1_init_56 (by decide +kernel) ?_
  refine xt_newi C hW hA 24 (by decide) (Nat.le_of_ble_eq_true rfl) (Nat.le_of_ble_eq_true rfl) dX1_init_58 (fun q6 H hW => ?_)
  replace hW : xt_W D (va_A [(h0, .inr (1, [.int 0, .int 0, .null, .int 0, .null, .null, .int 0, .int 0, .null, .null, .null, .long 0, .long 0]))] ss.heap.size) ss.heap [(h0, .inr (1, [.int (nI 1), .int (nI 1), .ref q1, .int 0, .ref q2, .ref q3, .int 0, .int 0, .ref q4, .ref q5, .null, .long 0, .long 0])), (q1, xt_i cI 24 (fun _ => 0)), (q2, xt_i cI 6 (fun _ => 0)), (q3, xt_i cI 6 (fun _ => 0)), (q4, xt_i cI 6 (fun _ => 0)), (q5, xt_l cL 729 (fun _ => 0)), (q6, xt_i cI 24 (fun _ => 0))] H _ := hW
  refine xt_put (ty := (.array .int)) xt_inX1 tyX1 tyX1_ok nmX1 C hW 0 rfl rfl 10 (by decide) rfl flX1_fresh rfl (by decide +kernel) rfl rfl (Nat.le_of_ble_eq_true rfl) dX1_init_60 (fun H locs hW => ?_)
  replace hW : xt_W D (va_A [(h0, .inr (1, [.int 0, .int 0, .null, .int 0, .null, .null, .int 0, .int 0, .null, .null, .null, .long 0, .long 0]))] ss.heap.size) ss.heap [(h0, .inr (1, [.int (nI 1), .int (nI 1), .ref q1, .int 0, .ref q2, .ref q3, .int 0, .int 0, .ref q4, .ref q5, .ref q6, .long 0, .long 0])), (q1, xt_i cI 24 (fun _ => 0)), (q2, xt_i cI 6 (fun _ => 0)), (q3, xt_i cI 6 (fun _ => 0)), (q4, xt_i cI 6 (fun _ => 0)), (q5, xt_l cL 729 (fun _ => 0)), (q6, xt_i cI 24 (fun _ => 0))] H locs := hW
  refine lv_aload_n C.1 C.2.1 dX1_init_63 rfl (lv_at hl 0 rfl) ?_
  refine W.widen (k := 6) (n := 795) (by decide) (by decide) ?_
  replace hW : xt_W D (va_A [(h0, .inr (1, [.int 0, .int 0, .null, .int 0, .null, .null, .int 0, .int 0, .null, .null, .null, .long 0, .long 0]))] ss.heap.size) ss.heap (xM (fun k => [h0, q1, q2, q3, q4, q5, q6].getD k 0) cI cL 1 1 0 0 0 0 0 (fun _ => 0) (fun _ => 0) (fun _ => 0) (fun _ => 0) (fun _ => 0) (fun _ => 0)) H locs := hW
  refine xt_cvd hA hW (xt_runV C hW.1 hW.2.1 cwX1_X1_clear (cm_clear l D cI cL (fun k => [h0, q1, q2, q3, q4, q5, q6].getD k 0) 1 1 0 0 0 0 0 (fun _ => 0) (fun _ => 0) (fun _ => 0) (fun _ => 0) (fun _ => 0) (fun _ => 0)) rfl rfl rfl hl.1 (rest := []) rfl (Nat.le_of_ble_eq_true rfl) ⟨(Nat.le_of_ble_eq_true rfl), (Nat.le_of_ble_eq_true rfl)⟩ ⟨(Nat.le_of_ble_eq_true rfl), (Nat.le_of_ble_eq_true rfl)⟩ dX1_init_64) (fun u H locs hp hW => ?_)
  replace hW : xt_W D (va_A [(h0, .inr (1, [.int 0, .int 0, .null, .int 0, .null, .null, .int 0, .int 0, .null, .null, .null, .long 0, .long 0]))] ss.heap.size) ss.heap (xM (fun k => [h0, q1, q2, q3, q4, q5, q6].getD k 0) cI cL 1 1 0 0 0 0 0 u (fun _ => 0) (fun _ => 0) (fun _ => 0) (fun _ => 0) (fun _ => 0)) H locs := hW
  exact W.vret C.1 C.2.1 hr (fun t ht hWm => ⟨⟨((fun k => [h0, q1, q2, q3, q4, q5, q6].getD k 0), u), rfl, ⟨rfl, hp⟩, by rw [ht]; exact hW.1, va_K.moved hWm.alike C.K, hW.2.1⟩, hW.2.2.F ht⟩) hW.2.2.2.2 dX1_init_67 hlk
