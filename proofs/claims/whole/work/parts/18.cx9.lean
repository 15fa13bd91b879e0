/-- units of a row, weights of a row, what is learned -/
def xq_ru (S K n : Nat) (w sy : Nat → Nat) (ka kb : Nat) : Nat := ms_sum (fun z1 => ms_un (xe w sy) S n sy ka kb z1) (xq_cl S K ka)
def xq_rt (S K : Nat) (w : Nat → Nat) (ka kb : Nat) : Nat := ms_sum (fun z1 => w ((ka * 3 + kb) * 4 + z1)) (xq_cl S K ka)
def xq_po (S K n : Nat) (w sy : Nat → Nat) (ka kb kc : Nat) : Nat := if xq_ru S K n w sy ka kb = 0 then w ((ka * 3 + kb) * 4 + kc) else ms_un (xe w sy) S n sy ka kb kc
def xq_wh (S K n : Nat) (w sy : Nat → Nat) (ka kb : Nat) : Nat := if xq_ru S K n w sy ka kb = 0 then xq_rt S K w ka kb else xq_ru S K n w sy ka kb
def xq_lv (S K n : Nat) (w sy : Nat → Nat) (ka kb kc : Nat) : Nat := if xq_wh S K n w sy ka kb = 0 then 0 else (2 * (9 * xq_po S K n w sy ka kb kc) + xq_wh S K n w sy ka kb) / (2 * xq_wh S K n w sy ka kb)
def xq_ku (S K : Nat) (ka kb kc : Nat) : Prop := (ka = 0 ∧ kb < 2 ^ 30 ∧ kc < S) ∨ (ka = 1 ∧ kb < S ∧ kc < S) ∨ (ka = 2 ∧ kb < S ∧ kc < K)
theorem xq_clb {S K a : Nat} (hS : S ≤ 3) (hK : K ≤ 4) : xq_cl S K a ≤ 4 := by unfold xq_cl; split <;> omega
theorem xq_rwb {S a : Nat} (hS0 : 0 < S) (hS : S ≤ 3) : xq_rw S a ≤ 3 := by unfold xq_rw; split <;> omega
theorem xq_krc {S K a b c : Nat} (ha : a < 3) (hb : b < xq_rw S a) (hc : c < xq_cl S K a) : xq_kr S K a b c := by
  unfold xq_rw at hb
  unfold xq_cl at hc
  unfold xq_kr
  rcases (show a = 0 ∨ a = 1 ∨ a = 2 by omega) with rfl | rfl | rfl
  · rw [if_pos rfl] at hb
    rw [if_neg (by decide)] at hc
    omega
  · rw [if_neg (by decide)] at hb
    rw [if_neg (by decide)] at hc
    omega
  · rw [if_neg (by decide)] at hb
    rw [if_pos rfl] at hc
    omega
theorem xq_kcr {S K a b c : Nat} (h : xq_kr S K a b c) : a < 3 ∧ b < xq_rw S a ∧ c < xq_cl S K a := by
  unfold xq_kr at h
  unfold xq_rw xq_cl
  rcases h with ⟨rfl, h1, h2⟩ | ⟨rfl, h1, h2⟩ | ⟨rfl, h1, h2⟩
  · rw [if_pos rfl, if_neg (by decide)]
    omega
  · rw [if_neg (by decide), if_neg (by decide)]
    omega
  · rw [if_neg (by decide), if_pos rfl]
    omega
theorem xq_kur {S K a b c : Nat} (h : xq_kr S K a b c) : xq_ku S K a b c := by
  unfold xq_kr at h
  unfold xq_ku
  omega
theorem xq_unb {S K n : Nat} {w sy : Nat → Nat} {a b c : Nat} (hS0 : 0 < S) (hS3 : S ≤ 3) (hn6 : n ≤ 6) (hw : ∀ i, i < 36 → w i ≤ 9) (hsy : ∀ p, p < n → sy p < 4) (h : xq_ku S K a b c) : ms_un (xe w sy) S n sy a b c ≤ 1235346792567894 := by
  have key : ms_sum (fun k => ms_wt (xe w sy) S n k * ms_tm S n sy a b c k) (S ^ n) = ms_un (xe w sy) S n sy a b c := by
    rcases h with ⟨rfl, h1, h2⟩ | ⟨rfl, h1, h2⟩ | ⟨rfl, h1, h2⟩
    · exact ms_un_0 (xe_0 w sy) sy h2
    · exact ms_un_1 (xe_0 w sy) sy h1 h2
    · exact ms_un_2 (xe_0 w sy) sy h1
  rw [← key]
  have h1 : ms_sum (fun k => ms_wt (xe w sy) S n k * ms_tm S n sy a b c k) (S ^ n) ≤ ms_sum (fun k => ms_wt (xe w sy) S n k * 6) (S ^ n) :=
    ms_sum_mono (fun k _ => Nat.mul_le_mul_left _ (Nat.le_trans (ms_tm_le S n sy a b c k) hn6))
  rw [ms_sum_mulr] at h1
  have h2 : ms_sum (ms_wt (xe w sy) S n) (S ^ n) ≤ 205891132094649 := ms_tot_le (e := xe w sy) hS0 hS3 hn6 (xq_e81 hw hS3 hsy)
  omega
theorem xq_rub {S K n : Nat} {w sy : Nat → Nat} {a b : Nat} (hS0 : 0 < S) (hS3 : S ≤ 3) (hK4 : K ≤ 4) (hn6 : n ≤ 6) (hw : ∀ i, i < 36 → w i ≤ 9) (hsy : ∀ p, p < n → sy p < 4) (ha : a < 3) (hb : b < xq_rw S a) : xq_ru S K n w sy a b ≤ 4941387170271576 := by
  have h1 : xq_ru S K n w sy a b ≤ xq_cl S K a * 1235346792567894 := ms_sum_le (fun c hc => xq_unb hS0 hS3 hn6 hw hsy (xq_kur (xq_krc ha hb hc)))
  have h2 := xq_clb (a := a) hS3 hK4
  have h3 : xq_cl S K a * 1235346792567894 ≤ 4 * 1235346792567894 := Nat.mul_le_mul_right _ h2
  omega
theorem xq_rtb {S K : Nat} {w : Nat → Nat} {a b : Nat} (hS0 : 0 < S) (hS3 : S ≤ 3) (hK4 : K ≤ 4) (hw : ∀ i, i < 36 → w i ≤ 9) (ha : a < 3) (hb : b < xq_rw S a) : xq_rt S K w a b ≤ 36 := by
  have h2 := xq_clb (a := a) hS3 hK4
  have h4 := xq_rwb (a := a) hS0 hS3
  have h1 : xq_rt S K w a b ≤ xq_cl S K a * 9 := ms_sum_le (fun c hc => hw _ (by omega))
  omega
theorem xq_whb {S K n : Nat} {w sy : Nat → Nat} {a b : Nat} (hS0 : 0 < S) (hS3 : S ≤ 3) (hK4 : K ≤ 4) (hn6 : n ≤ 6) (hw : ∀ i, i < 36 → w i ≤ 9) (hsy : ∀ p, p < n → sy p < 4) (ha : a < 3) (hb : b < xq_rw S a) : xq_wh S K n w sy a b ≤ 4941387170271576 := by
  unfold xq_wh
  have h1 := xq_rtb (K := K) hS0 hS3 hK4 hw ha hb
  have h2 := xq_rub (n := n) (K := K) hS0 hS3 hK4 hn6 hw hsy ha hb
  split <;> omega
theorem xq_pow {S K n : Nat} {w sy : Nat → Nat} {a b c : Nat} (hc : c < xq_cl S K a) : xq_po S K n w sy a b c ≤ xq_wh S K n w sy a b := by
  unfold xq_po xq_wh
  split
  · exact ms_le_sum (f := fun z1 => w ((a * 3 + b) * 4 + z1)) hc
  · exact ms_le_sum (f := fun z1 => ms_un (xe w sy) S n sy a b z1) hc
theorem xq_lvb {S K n : Nat} {w sy : Nat → Nat} {a b c : Nat} (hc : c < xq_cl S K a) : xq_lv S K n w sy a b c ≤ 9 := by
  unfold xq_lv
  split
  · exact Nat.zero_le _
  · exact ms_near_le (xq_pow hc) (by omega)
theorem xq_Vlw {S K n wc : Nat} {w lw sy sb sh rw rk lv : Nat → Nat} (h : xq_V S K n wc w lw sy sb sh rw rk) (hl : ∀ i, i < 36 → lv i ≤ 9) : xq_V S K n wc w lv sy sb sh rw rk := by
  obtain ⟨h1, h2, h3, h4, h5, h6, h7, h8⟩ := h
  exact ⟨h1, h2, h3, h4, h5, h6, hl, h8⟩
theorem xq_rows {a S : Nat} {r : Int32} (ha : a < 3) (h : (nI a = nI 0 ∧ r = nI 1) ∨ (nI a = nI 1 ∧ r = nI S) ∨ (nI a = nI 2 ∧ r = nI S) ∨ (¬ nI a = nI 0 ∧ ¬ nI a = nI 1 ∧ ¬ nI a = nI 2 ∧ r = nI 0)) : r = nI (xq_rw S a) := by
  unfold xq_rw
  rcases (show a = 0 ∨ a = 1 ∨ a = 2 by omega) with rfl | rfl | rfl
  · rcases h with h | h | h | h
    · exact h.2
    · exact absurd h.1 (by decide)
    · exact absurd h.1 (by decide)
    · exact absurd rfl h.1
  · rcases h with h | h | h | h
    · exact absurd h.1 (by decide)
    · exact h.2
    · exact absurd h.1 (by decide)
    · exact absurd rfl h.2.1
  · rcases h with h | h | h | h
    · exact absurd h.1 (by decide)
    · exact absurd h.1 (by decide)
    · exact h.2
    · exact absurd rfl h.2.2.1
theorem xt_cpf {f g : Nat → Nat} {n : Nat} : va_cpy (fun j => nI (f j)) (fun j => nI (g j)) 0 0 n = fun j => nI (if j < n then f j else g j) := by
  funext j
  unfold va_cpy
  by_cases h : j < n
  · rw [if_pos (by omega), if_pos h, Nat.sub_zero, Nat.zero_add]
  · rw [if_neg (by omega), if_neg h]
theorem xt_copyi {p : Program} {l : Launch} {e : Env} {d : Nat} {s : State} {m : MethodId} {args : Array Value} {below : List Frame} {meth : Method} {c : Code} {H : Heap} {locs : List Loc} {cells slots : Nat} {Q : State → Prop} {cc : ByteArray} {pc nL : Nat} {ls : Array Slot} {D : va_G} {cI cL : ClassId} {A : Nat → Prop} {H0 : Heap} {ws : va_W} {a0 a1 idx : Nat}
    (C : xt_C p s m args c cc nL RX0 D cI cL) (w : xt_W D A H0 ws H locs) (hl : ls.size = nL) (q0 q1 n : Nat) {f g : Nat → Nat} (ha0 : ws[q0]? = some (a0, xt_i cI n f)) (ha1 : ws[q1]? = some (a1, xt_i cI n g)) (hn : n < 2 ^ 31) (hd : 2 ≤ d) (hk : Cond.methodLink RX0 idx arraycopyName ∈ xt_T ∧ Cond.native arraycopyName ∈ xt_T ∧ Cond.static arraycopyName ∈ xt_T ∧ Cond.initialized "java/lang/System" ∈ xt_T) (hdg : decode cc pc = .ok (.invokestatic idx, 3))
    (kk : ∀ (H1 : Heap) (locs1 : List Loc), xt_W D A H0 (ws.set q1 (a1, xt_i cI n (fun j => if j < n then f j else g j))) H1 locs1 → W p l e (xt_R d) s m args below meth c H1 locs1 cells slots Q (F0 m (pc + 3) ls [])) : W p l e (xt_R d) s m args below meth c H locs cells slots Q (F0 m pc ls [.int (nI n), .int (nI 0), .ref a1, .int (nI 0), .ref a0]) := by
  refine va_copyi C.1 C.2.1 (C.2.2.1.trans hl.symm) C.o (C.t hk.1) (C.t hk.2.1) (C.t hk.2.2.1) (C.t hk.2.2.2) C.K w.1 w.2.1 w.2.2 q0 q1 0 0 ha0 ha1 rfl rfl rfl (nI_pos (by omega)) (nI_pos (by omega)) (nI_pos hn) ?_ ?_ (fun i _ => rfl) (by show 1 ≤ d; omega) ?_ hdg (fun H1 locs1 hP hD hS => ?_)
  · rw [nI_clamp (by omega), nI_clamp hn]; omega
  · rw [nI_clamp (by omega), nI_clamp hn]; omega
  · exact Nat.le_trans (by decide) (show 80 ≤ 40 * d by omega)
  · rw [nI_clamp (n := 0) (by omega), nI_clamp hn, xt_cpf] at hP hD
    exact kk H1 locs1 ⟨hP, hD, hS⟩
set_option maxHeartbeats 4000000 in
set_option maxRecDepth 100000 in
theorem cx_unitsOf (l : Launch) (D : va_G) (cI cL : ClassId) (ad : Nat → Nat) (S K n wc dn : Nat) (w lw sy sb sh rw rk dr : Nat → Nat) (ka : Nat) (kb : Nat) (kc : Nat) (hV : xq_V S K n wc w lw sy sb sh rw rk) (hu : xq_ku S K ka kb kc) : xt_M l yX0_unitsOf cX0_unitsOf 4 (some .long) 3 D cI cL [.ref (ad 0), .int (nI ka), .int (nI kb), .int (nI kc)] (xX ad cI cL S K n wc dn w lw sy sb sh rw rk dr) (xt_Ql D cI cL (xX ad cI cL S K n wc dn w lw sy sb sh rw rk dr) (fun (r : Int64) (u : Unit) => r = lN (ms_un (xe w sy) S n sy ka kb kc)) (fun u => xX ad cI cL S K n wc dn w lw sy sb sh rw rk dr)) := by
  have hV2 := hV
  obtain ⟨hS0, hS3, hK0, hK4, hn6, hw, hlw, hsK, hok⟩ := hV
  have hsy : ∀ p, p < n → sy p < 4 := fun p h => Nat.lt_of_lt_of_le (hsK p h) hK4
  refine xt_start (own := RX0) rfl (by decide) (Nat.le_of_ble_eq_true rfl) (fun pg ev ss mi args below meth cd A Q ls C hE hA hl hW => ?_)
  replace hl : lv_has ls 4 [(0, .ref (ad 0)), (1, .int (nI ka)), (2, .int (nI kb)), (3, .int (nI kc))] := hl
  refine lv_iload_n C.1 C.2.1 dX0_unitsOf_0 rfl (lv_at hl 1 rfl) ?_
  rcases hu with ⟨rfl, hu1, hu2⟩ | ⟨rfl, hu1, hu2⟩ | ⟨rfl, hu1, hu2⟩
  · replace hl : lv_has ls 4 [(0, .ref (ad 0)), (1, .int (nI 0)), (2, .int (nI kb)), (3, .int (nI kc))] := hl
    refine lv_lookup C.1 C.2.1 dX0_unitsOf_1 (off := 27) (tgt := 28) (by decide +kernel) (by decide +kernel) (by decide) ?_
    refine lv_aload_n C.1 C.2.1 dX0_unitsOf_28 rfl (lv_at hl 0 rfl) ?_
    refine lv_iload_n C.1 C.2.1 dX0_unitsOf_29 rfl (lv_at hl 2 rfl) ?_
    refine lv_iload_n C.1 C.2.1 dX0_unitsOf_30 rfl (lv_at hl 3 rfl) ?_
    refine xt_cl hA hW (xt_runV C hW.1 hW.2.1 cwX0_X0_unitsThrough (cx_unitsThrough l D cI cL ad S K n wc dn w lw sy sb sh rw rk dr kb kc (by omega) (by omega) (by omega) (by omega) (hok)) rfl rfl rfl hl.1 (rest := []) rfl (Nat.le_of_ble_eq_true rfl) ⟨(Nat.le_of_ble_eq_true rfl), (Nat.le_of_ble_eq_true rfl)⟩ ⟨Nat.zero_le _, Nat.zero_le _⟩ dX0_unitsOf_31) (fun r31 u H locs hp31 hW => ?_)
    replace hW : xt_W D A ss.heap (xX ad cI cL S K n wc dn w lw sy sb sh rw rk dr) H locs := hW
    subst hp31
    exact xt_lret C hE () hW (rfl) dX0_unitsOf_34
  · replace hl : lv_has ls 4 [(0, .ref (ad 0)), (1, .int (nI 1)), (2, .int (nI kb)), (3, .int (nI kc))] := hl
    refine lv_lookup C.1 C.2.1 dX0_unitsOf_1 (off := 34) (tgt := 35) (by decide +kernel) (by decide +kernel) (by decide) ?_
    refine lv_aload_n C.1 C.2.1 dX0_unitsOf_35 rfl (lv_at hl 0 rfl) ?_
    refine lv_iload_n C.1 C.2.1 dX0_unitsOf_36 rfl (lv_at hl 2 rfl) ?_
    refine lv_iload_n C.1 C.2.1 dX0_unitsOf_37 rfl (lv_at hl 3 rfl) ?_
    refine xt_cl hA hW (xt_runV C hW.1 hW.2.1 cwX0_X0_unitsOfStep (cx_unitsOfStep l D cI cL ad S K n wc dn w lw sy sb sh rw rk dr kb kc (hV2) (by omega) (by omega)) rfl rfl rfl hl.1 (rest := []) rfl (Nat.le_of_ble_eq_true rfl) ⟨(Nat.le_of_ble_eq_true rfl), (Nat.le_of_ble_eq_true rfl)⟩ ⟨Nat.zero_le _, Nat.zero_le _⟩ dX0_unitsOf_38) (fun r38 u H locs hp38 hW => ?_)
    replace hW : xt_W D A ss.heap (xX ad cI cL S K n wc dn w lw sy sb sh rw rk dr) H locs := hW
    subst hp38
    exact xt_lret C hE () hW (rfl) dX0_unitsOf_41
  · replace hl : lv_has ls 4 [(0, .ref (ad 0)), (1, .int (nI 2)), (2, .int (nI kb)), (3, .int (nI kc))] := hl
    refine lv_lookup C.1 C.2.1 dX0_unitsOf_1 (off := 41) (tgt := 42) (by decide +kernel) (by decide +kernel) (by decide) ?_
    refine lv_aload_n C.1 C.2.1 dX0_unitsOf_42 rfl (lv_at hl 0 rfl) ?_
    refine lv_iload_n C.1 C.2.1 dX0_unitsOf_43 rfl (lv_at hl 2 rfl) ?_
    refine lv_iload_n C.1 C.2.1 dX0_unitsOf_44 rfl (lv_at hl 3 rfl) ?_
    refine xt_cl hA hW (xt_runV C hW.1 hW.2.1 cwX0_X0_unitsOfSymbol (cx_unitsOfSymbol l D cI cL ad S K n wc dn w lw sy sb sh rw rk dr kb kc (hV2) (by omega) (by omega)) rfl rfl rfl hl.1 (rest := []) rfl (Nat.le_of_ble_eq_true rfl) ⟨(Nat.le_of_ble_eq_true rfl), (Nat.le_of_ble_eq_true rfl)⟩ ⟨Nat.zero_le _, Nat.zero_le _⟩ dX0_unitsOf_45) (fun r45 u H locs hp45 hW => ?_)
    replace hW : xt_W D A ss.heap (xX ad cI cL S K n wc dn w lw sy sb sh rw rk dr) H locs := hW
    subst hp45
    exact xt_lret C hE () hW (rfl) dX0_unitsOf_48
set_option maxHeartbeats 4000000 in
set_option maxRecDepth 100000 in
theorem cx_unitsOfRow (l : Launch) (D : va_G) (cI cL : ClassId) (ad : Nat → Nat) (S K n wc dn : Nat) (w lw sy sb sh rw rk dr : Nat → Nat) (ka : Nat) (kb : Nat) (hV : xq_V S K n wc w lw sy sb sh rw rk) (ha3 : ka < 3) (hbr : kb < xq_rw S ka) : xt_M l yX0_unitsOfRow cX0_unitsOfRow 6 (some .long) 4 D cI cL [.ref (ad 0), .int (nI ka), .int (nI kb)] (xX ad cI cL S K n wc dn w lw sy sb sh rw rk dr) (xt_Ql D cI cL (xX ad cI cL S K n wc dn w lw sy sb sh rw rk dr) (fun (r : Int64) (u : Unit) => r = lN (xq_ru S K n w sy ka kb)) (fun u => xX ad cI cL S K n wc dn w lw sy sb sh rw rk dr)) := by
  have hV2 := hV
  obtain ⟨hS0, hS3, hK0, hK4, hn6, hw, hlw, hsK, hok⟩ := hV
  have hsy : ∀ p, p < n → sy p < 4 := fun p h => Nat.lt_of_lt_of_le (hsK p h) hK4
  have hcb := xq_clb (a := ka) hS3 hK4
  have hrb := xq_rwb (a := ka) hS0 hS3
  refine xt_start (own := RX0) rfl (by decide) (Nat.le_of_ble_eq_true rfl) (fun pg ev ss mi args below meth cd A Q ls C hE hA hl hW => ?_)
  replace hl : lv_has ls 6 [(0, .ref (ad 0)), (1, .int (nI ka)), (2, .int (nI kb))] := hl
  refine xt_lconst C 0 dX0_unitsOfRow_0 (by decide +kernel) ?_
  refine lv_lstore_n C.1 C.2.1 dX0_unitsOfRow_1 rfl hl (by decide) rfl (fun ls hl => ?_)
  replace hl : lv_has ls 6 [(3, .long (lN 0)), (0, .ref (ad 0)), (1, .int (nI ka)), (2, .int (nI kb))] := hl
  refine xt_iconst C 0 dX0_unitsOfRow_2 (by decide +kernel) ?_
  refine lv_istore C.1 C.2.1 dX0_unitsOfRow_3 hl (by decide) rfl (fun ls hl => ?_)
  replace hl : lv_has ls 6 [(5, .int (nI 0)), (3, .long (lN 0)), (0, .ref (ad 0)), (1, .int (nI ka)), (2, .int (nI kb))] := hl
  have lp5 : ∀ (q : Nat) (i : Nat), xq_cl S K ka - i = q → (i ≤ xq_cl S K ka) → ∀ (ls : Array Slot) (H : Heap) (locs : List Loc), lv_has ls 6 [(5, .int (nI i)), (3, .long (lN (ms_sum (fun z1 => ms_un (xe w sy) S n sy ka kb z1) i))), (0, .ref (ad 0)), (1, .int (nI ka)), (2, .int (nI kb))] → xt_W D A ss.heap (xX ad cI cL S K n wc dn w lw sy sb sh rw rk dr) H locs → W pg l ev (xt_R 4) ss mi args below meth cd H locs 0 0 Q (F0 mi 5 ls []) := by
    intro q
    induction q using Nat.strongRecOn with
    | _ q ih5 =>
      intro i hq5 hi ls H locs hl hW
      refine lv_iload C.1 C.2.1 dX0_unitsOfRow_5 (lv_at hl 0 rfl) ?_
      refine lv_aload_n C.1 C.2.1 dX0_unitsOfRow_7 rfl (lv_at hl 2 rfl) ?_
      refine lv_iload_n C.1 C.2.1 dX0_unitsOfRow_8 rfl (lv_at hl 3 rfl) ?_
      refine xt_ci hA hW (xt_runV C hW.1 hW.2.1 cwX0_X0_columnsOf (cx_columnsOf l D cI cL ad S K n wc dn w lw sy sb sh rw rk dr ka (by omega)) rfl rfl rfl hl.1 (rest := [.int (nI i)]) rfl (Nat.le_of_ble_eq_true rfl) ⟨(Nat.le_of_ble_eq_true rfl), (Nat.le_of_ble_eq_true rfl)⟩ ⟨Nat.zero_le _, Nat.zero_le _⟩ dX0_unitsOfRow_9) (fun r9 u H locs hp9 hW => ?_)
      replace hW : xt_W D A ss.heap (xX ad cI cL S K n wc dn w lw sy sb sh rw rk dr) H locs := hW
      subst hp9
      rw [show (if ka = 2 then K else S) = xq_cl S K ka from rfl]
      refine xt_icmp_ge C (by omega) (by omega) dX0_unitsOfRow_12 (tgt := 32) (by decide) (fun h12 => ?_) (fun h12 => ?_)
      · refine lv_lload_n C.1 C.2.1 dX0_unitsOfRow_32 rfl (lv_at hl 1 rfl) ?_
        exact xt_lret C hE () hW (by show lN (ms_sum _ i) = lN _; rw [show i = xq_cl S K ka by omega]; rfl) dX0_unitsOfRow_33
      · refine lv_lload_n C.1 C.2.1 dX0_unitsOfRow_15 rfl (lv_at hl 1 rfl) ?_
        refine lv_aload_n C.1 C.2.1 dX0_unitsOfRow_16 rfl (lv_at hl 2 rfl) ?_
        refine lv_iload_n C.1 C.2.1 dX0_unitsOfRow_17 rfl (lv_at hl 3 rfl) ?_
        refine lv_iload_n C.1 C.2.1 dX0_unitsOfRow_18 rfl (lv_at hl 4 rfl) ?_
        refine lv_iload C.1 C.2.1 dX0_unitsOfRow_19 (lv_at hl 0 rfl) ?_
        refine xt_cl hA hW (xt_runV C hW.1 hW.2.1 cwX0_X0_unitsOf (cx_unitsOf l D cI cL ad S K n wc dn w lw sy sb sh rw rk dr ka kb i (hV2) (xq_kur (xq_krc ha3 hbr (by omega)))) rfl rfl rfl hl.1 (rest := [.long (lN (ms_sum (fun z1 => ms_un (xe w sy) S n sy ka kb z1) i))]) rfl (Nat.le_of_ble_eq_true rfl) ⟨(Nat.le_of_ble_eq_true rfl), (Nat.le_of_ble_eq_true rfl)⟩ ⟨Nat.zero_le _, Nat.zero_le _⟩ dX0_unitsOfRow_21) (fun r21 u H locs hp21 hW => ?_)
        replace hW : xt_W D A ss.heap (xX ad cI cL S K n wc dn w lw sy sb sh rw rk dr) H locs := hW
        subst hp21
        refine xt_ladd C dX0_unitsOfRow_24 ?_
        refine lv_lstore_n C.1 C.2.1 dX0_unitsOfRow_25 rfl hl (by decide) rfl (fun ls hl => ?_)
        replace hl : lv_has ls 6 [(3, .long (lN ((ms_sum (fun z1 => ms_un (xe w sy) S n sy ka kb z1) i) + (ms_un (xe w sy) S n sy ka kb i)))), (5, .int (nI i)), (0, .ref (ad 0)), (1, .int (nI ka)), (2, .int (nI kb))] := hl
        refine lv_iinc (k := 1) C.1 C.2.1 dX0_unitsOfRow_26 hl rfl xt_inc (by decide) rfl (fun ls hl => ?_)
        replace hl : lv_has ls 6 [(5, .int (nI (i + 1))), (3, .long (lN ((ms_sum (fun z1 => ms_un (xe w sy) S n sy ka kb z1) i) + (ms_un (xe w sy) S n sy ka kb i)))), (0, .ref (ad 0)), (1, .int (nI ka)), (2, .int (nI kb))] := hl
        refine lv_goto C.1 C.2.1 dX0_unitsOfRow_29 (tgt := 5) (by decide) ?_
        exact ih5 _ (by omega) (i + 1) rfl (by omega) ls _ _ (lv_sub hl [0, 1, 2, 3, 4] rfl) hW
  exact lp5 _ 0 rfl (Nat.zero_le _) ls _ _ (lv_sub hl [0, 1, 2, 3, 4] rfl) hW
set_option maxHeartbeats 4000000 in
set_option maxRecDepth 100000 in
theorem cx_weightOfRow (l : Launch) (D : va_G) (cI cL : ClassId) (ad : Nat → Nat) (S K n wc dn : Nat) (w lw sy sb sh rw rk dr : Nat → Nat) (ka : Nat) (kb : Nat) (hV : xq_V S K n wc w lw sy sb sh rw rk) (ha3 : ka < 3) (hbr : kb < xq_rw S ka) : xt_M l yX0_weightOfRow cX0_weightOfRow 6 (some .long) 1 D cI cL [.ref (ad 0), .int (nI ka), .int (nI kb)] (xX ad cI cL S K n wc dn w lw sy sb sh rw rk dr) (xt_Ql D cI cL (xX ad cI cL S K n wc dn w lw sy sb sh rw rk dr) (fun (r : Int64) (u : Unit) => r = lN (xq_rt S K w ka kb)) (fun u => xX ad cI cL S K n wc dn w lw sy sb sh rw rk dr)) := by
  have hV2 := hV
  obtain ⟨hS0, hS3, hK0, hK4, hn6, hw, hlw, hsK, hok⟩ := hV
  have hsy : ∀ p, p < n → sy p < 4 := fun p h => Nat.lt_of_lt_of_le (hsK p h) hK4
  have hcb := xq_clb (a := ka) hS3 hK4
  have hrb := xq_rwb (a := ka) hS0 hS3
  have hwl : ∀ i, i < 36 → w i < 2 ^ 31 := fun i h => Nat.lt_of_le_of_lt (hw i h) (by decide)
  refine xt_start (own := RX0) rfl (by decide) (Nat.le_of_ble_eq_true rfl) (fun pg ev ss mi args below meth cd A Q ls C hE hA hl hW => ?_)
  replace hl : lv_has ls 6 [(0, .ref (ad 0)), (1, .int (nI ka)), (2, .int (nI kb))] := hl
  refine xt_lconst C 0 dX0_weightOfRow_0 (by decide +kernel) ?_
  refine lv_lstore_n C.1 C.2.1 dX0_weightOfRow_1 rfl hl (by decide) rfl (fun ls hl => ?_)
  replace hl : lv_has ls 6 [(3, .long (lN 0)), (0, .ref (ad 0)), (1, .int (nI ka)), (2, .int (nI kb))] := hl
  refine xt_iconst C 0 dX0_weightOfRow_2 (by decide +kernel) ?_
  refine lv_istore C.1 C.2.1 dX0_weightOfRow_3 hl (by decide) rfl (fun ls hl => ?_)
  replace hl : lv_has ls 6 [(5, .int (nI 0)), (3, .long (lN 0)), (0, .ref (ad 0)), (1, .int (nI ka)), (2, .int (nI kb))] := hl
  have lp5 : ∀ (q : Nat) (i : Nat), xq_cl S K ka - i = q → (i ≤ xq_cl S K ka) → ∀ (ls : Array Slot) (H : Heap) (locs : List Loc), lv_has ls 6 [(5, .int (nI i)), (3, .long (lN (ms_sum (fun z1 => w ((ka * 3 + kb) * 4 + z1)) i))), (0, .ref (ad 0)), (1, .int (nI ka)), (2, .int (nI kb))] → xt_W D A ss.heap (xX ad cI cL S K n wc dn w lw sy sb sh rw rk dr) H locs → W pg l ev (xt_R 1) ss mi args below meth cd H locs 0 0 Q (F0 mi 5 ls []) := by
    intro q
    induction q using Nat.strongRecOn with
    | _ q ih5 =>
      intro i hq5 hi ls H locs hl hW
      refine lv_iload C.1 C.2.1 dX0_weightOfRow_5 (lv_at hl 0 rfl) ?_
      refine lv_aload_n C.1 C.2.1 dX0_weightOfRow_7 rfl (lv_at hl 2 rfl) ?_
      refine lv_iload_n C.1 C.2.1 dX0_weightOfRow_8 rfl (lv_at hl 3 rfl) ?_
      refine xt_ci hA hW (xt_runV C hW.1 hW.2.1 cwX0_X0_columnsOf (cx_columnsOf l D cI cL ad S K n wc dn w lw sy sb sh rw rk dr ka (by omega)) rfl rfl rfl hl.1 (rest := [.int (nI i)]) rfl (Nat.le_of_ble_eq_true rfl) ⟨(Nat.le_of_ble_eq_true rfl), (Nat.le_of_ble_eq_true rfl)⟩ ⟨Nat.zero_le _, Nat.zero_le _⟩ dX0_weightOfRow_9) (fun r9 u H locs hp9 hW => ?_)
      replace hW : xt_W D A ss.heap (xX ad cI cL S K n wc dn w lw sy sb sh rw rk dr) H locs := hW
      subst hp9
      rw [show (if ka = 2 then K else S) = xq_cl S K ka from rfl]
      refine xt_icmp_ge C (by omega) (by omega) dX0_weightOfRow_12 (tgt := 37) (by decide) (fun h12 => ?_) (fun h12 => ?_)
      · refine lv_lload_n C.1 C.2.1 dX0_weightOfRow_37 rfl (lv_at hl 1 rfl) ?_
        exact xt_lret C hE () hW (by show lN (ms_sum _ i) = lN _; rw [show i = xq_cl S K ka by omega]; rfl) dX0_weightOfRow_38
      · refine lv_lload_n C.1 C.2.1 dX0_weightOfRow_15 rfl (lv_at hl 1 rfl) ?_
        refine lv_aload_n C.1 C.2.1 dX0_weightOfRow_16 rfl (lv_at hl 2 rfl) ?_
        refine xt_get xt_inX0 C hW 0 rfl rfl 2 (by decide) rfl flX0_weights rfl dX0_weightOfRow_17 ?_
        refine lv_iload_n C.1 C.2.1 dX0_weightOfRow_20 rfl (lv_at hl 3 rfl) ?_
        refine lv_iload_n C.1 C.2.1 dX0_weightOfRow_21 rfl (lv_at hl 4 rfl) ?_
        refine lv_iload C.1 C.2.1 dX0_weightOfRow_22 (lv_at hl 0 rfl) ?_
        refine xt_ci hA hW (xt_runS C hW.1 hW.2.1 cwX0_X0_slot (cx_slot l D cI cL (xX ad cI cL S K n wc dn w lw sy sb sh rw rk dr) ka kb i) rfl hl.1 (rest := [.ref (ad 1), .long (lN (ms_sum (fun z1 => w ((ka * 3 + kb) * 4 + z1)) i))]) rfl (Nat.le_of_ble_eq_true rfl) ⟨(Nat.le_of_ble_eq_true rfl), (Nat.le_of_ble_eq_true rfl)⟩ ⟨Nat.zero_le _, Nat.zero_le _⟩ dX0_weightOfRow_24) (fun r24 u H locs hp24 hW => ?_)
        replace hW : xt_W D A ss.heap (xX ad cI cL S K n wc dn w lw sy sb sh rw rk dr) H locs := hW
        subst hp24
        refine xt_iald C hW 1 rfl (by decide) dX0_weightOfRow_27 (by omega) ?_
        refine xt_i2l C dX0_weightOfRow_28 (hwl _ (by omega)) ?_
        refine xt_ladd C dX0_weightOfRow_29 ?_
        refine lv_lstore_n C.1 C.2.1 dX0_weightOfRow_30 rfl hl (by decide) rfl (fun ls hl => ?_)
        replace hl : lv_has ls 6 [(3, .long (lN ((ms_sum (fun z1 => w ((ka * 3 + kb) * 4 + z1)) i) + (w ((ka * 3 + kb) * 4 + i))))), (5, .int (nI i)), (0, .ref (ad 0)), (1, .int (nI ka)), (2, .int (nI kb))] := hl
        refine lv_iinc (k := 1) C.1 C.2.1 dX0_weightOfRow_31 hl rfl xt_inc (by decide) rfl (fun ls hl => ?_)
        replace hl : lv_has ls 6 [(5, .int (nI (i + 1))), (3, .long (lN ((ms_sum (fun z1 => w ((ka * 3 + kb) * 4 + z1)) i) + (w ((ka * 3 + kb) * 4 + i))))), (0, .ref (ad 0)), (1, .int (nI ka)), (2, .int (nI kb))] := hl
        refine W.eq (g2 := F0 mi 34 ls []) rfl ?_
        refine lv_goto C.1 C.2.1 dX0_weightOfRow_34 (tgt := 5) (by decide) ?_
        exact ih5 _ (by omega) (i + 1) rfl (by omega) ls _ _ (lv_sub hl [0, 1, 2, 3, 4] rfl) hW
  exact lp5 _ 0 rfl (Nat.zero_le _) ls _ _ (lv_sub hl [0, 1, 2, 3, 4] rfl) hW
set_option maxHeartbeats 4000000 in
set_option maxRecDepth 100000 in
theorem cx_learnedPortion (l : Launch) (D : va_G) (cI cL : ClassId) (ad : Nat → Nat) (S K n wc dn : Nat) (w lw sy sb sh rw rk dr : Nat → Nat) (ka : Nat) (kb : Nat) (kc : Nat) (u : Nat) (hV : xq_V S K n wc w lw sy sb sh rw rk) (ha3 : ka < 3) (hbr : kb < xq_rw S ka) (hck : kc < xq_cl S K ka) (hue : u = xq_ru S K n w sy ka kb) : xt_M l yX0_learnedPortion cX0_learnedPortion 6 (some .long) 4 D cI cL [.ref (ad 0), .int (nI ka), .int (nI kb), .int (nI kc), .long (lN u)] (xX ad cI cL S K n wc dn w lw sy sb sh rw rk dr) (xt_Ql D cI cL (xX ad cI cL S K n wc dn w lw sy sb sh rw rk dr) (fun (r : Int64) (u : Unit) => r = lN (xq_po S K n w sy ka kb kc)) (fun u => xX ad cI cL S K n wc dn w lw sy sb sh rw rk dr)) := by
  have hV2 := hV
  obtain ⟨hS0, hS3, hK0, hK4, hn6, hw, hlw, hsK, hok⟩ := hV
  have hsy : ∀ p, p < n → sy p < 4 := fun p h => Nat.lt_of_lt_of_le (hsK p h) hK4
  have hcb := xq_clb (a := ka) hS3 hK4
  have hrb := xq_rwb (a := ka) hS0 hS3
  have hwl : ∀ i, i < 36 → w i < 2 ^ 31 := fun i h => Nat.lt_of_le_of_lt (hw i h) (by decide)
  refine xt_start (own := RX0) rfl (by decide) (Nat.le_of_ble_eq_true rfl) (fun pg ev ss mi args below meth cd A Q ls C hE hA hl hW => ?_)
  replace hl : lv_has ls 6 [(0, .ref (ad 0)), (1, .int (nI ka)), (2, .int (nI kb)), (3, .int (nI kc)), (4, .long (lN u))] := hl
  refine lv_lload C.1 C.2.1 dX0_learnedPortion_0 (lv_at hl 4 rfl) ?_
  refine xt_lconst C 0 dX0_learnedPortion_2 (by decide +kernel) ?_
  refine xt_l_eq C (by rw [hue]; exact Nat.lt_of_le_of_lt (xq_rub hS0 hS3 hK4 hn6 hw hsy ha3 hbr) (by decide)) (by decide) dX0_learnedPortion_3 dX0_learnedPortion_4 (tgt := 17) (by decide) (fun h3 => ?_) (fun h3 => ?_)
  · refine lv_aload_n C.1 C.2.1 dX0_learnedPortion_17 rfl (lv_at hl 0 rfl) ?_
    refine xt_get xt_inX0 C hW 0 rfl rfl 2 (by decide) rfl flX0_weights rfl dX0_learnedPortion_18 ?_
    refine lv_iload_n C.1 C.2.1 dX0_learnedPortion_21 rfl (lv_at hl 1 rfl) ?_
    refine lv_iload_n C.1 C.2.1 dX0_learnedPortion_22 rfl (lv_at hl 2 rfl) ?_
    refine lv_iload_n C.1 C.2.1 dX0_learnedPortion_23 rfl (lv_at hl 3 rfl) ?_
    refine xt_ci hA hW (xt_runS C hW.1 hW.2.1 cwX0_X0_slot (cx_slot l D cI cL (xX ad cI cL S K n wc dn w lw sy sb sh rw rk dr) ka kb kc) rfl hl.1 (rest := [.ref (ad 1)]) rfl (Nat.le_of_ble_eq_true rfl) ⟨(Nat.le_of_ble_eq_true rfl), (Nat.le_of_ble_eq_true rfl)⟩ ⟨Nat.zero_le _, Nat.zero_le _⟩ dX0_learnedPortion_24) (fun r24 u H locs hp24 hW => ?_)
    replace hW : xt_W D A ss.heap (xX ad cI cL S K n wc dn w lw sy sb sh rw rk dr) H locs := hW
    subst hp24
    refine xt_iald C hW 1 rfl (by decide) dX0_learnedPortion_27 (by omega) ?_
    refine xt_i2l C dX0_learnedPortion_28 (hwl _ (by omega)) ?_
    exact xt_lret C hE () hW (by show lN _ = lN _; unfold xq_po; rw [← hue]; first | rw [if_pos h3] | rw [if_neg h3]) dX0_learnedPortion_29
  · refine lv_aload_n C.1 C.2.1 dX0_learnedPortion_7 rfl (lv_at hl 0 rfl) ?_
    refine lv_iload_n C.1 C.2.1 dX0_learnedPortion_8 rfl (lv_at hl 1 rfl) ?_
    refine lv_iload_n C.1 C.2.1 dX0_learnedPortion_9 rfl (lv_at hl 2 rfl) ?_
    refine lv_iload_n C.1 C.2.1 dX0_learnedPortion_10 rfl (lv_at hl 3 rfl) ?_
    refine xt_cl hA hW (xt_runV C hW.1 hW.2.1 cwX0_X0_unitsOf (cx_unitsOf l D cI cL ad S K n wc dn w lw sy sb sh rw rk dr ka kb kc (hV2) (xq_kur (xq_krc ha3 hbr hck))) rfl rfl rfl hl.1 (rest := []) rfl (Nat.le_of_ble_eq_true rfl) ⟨(Nat.le_of_ble_eq_true rfl), (Nat.le_of_ble_eq_true rfl)⟩ ⟨Nat.zero_le _, Nat.zero_le _⟩ dX0_learnedPortion_11) (fun r11 u H locs hp11 hW => ?_)
    replace hW : xt_W D A ss.heap (xX ad cI cL S K n wc dn w lw sy sb sh rw rk dr) H locs := hW
    subst hp11
    refine lv_goto C.1 C.2.1 dX0_learnedPortion_14 (tgt := 29) (by decide) ?_
    exact xt_lret C hE () hW (by show lN _ = lN _; unfold xq_po; rw [← hue]; first | rw [if_pos h3] | rw [if_neg h3]) dX0_learnedPortion_29
set_option maxHeartbeats 4000000 in
set_option maxRecDepth 100000 in
theorem cx_learnedWhole (l : Launch) (D : va_G) (cI cL : ClassId) (ad : Nat → Nat) (S K n wc dn : Nat) (w lw sy sb sh rw rk dr : Nat → Nat) (ka : Nat) (kb : Nat) (u : Nat) (hV : xq_V S K n wc w lw sy sb sh rw rk) (ha3 : ka < 3) (hbr : kb < xq_rw S ka) (hue : u = xq_ru S K n w sy ka kb) : xt_M l yX0_learnedWhole cX0_learnedWhole 5 (some .long) 2 D cI cL [.ref (ad 0), .int (nI ka), .int (nI kb), .long (lN u)] (xX ad cI cL S K n wc dn w lw sy sb sh rw rk dr) (xt_Ql D cI cL (xX ad cI cL S K n wc dn w lw sy sb sh rw rk dr) (fun (r : Int64) (u : Unit) => r = lN (xq_wh S K n w sy ka kb)) (fun u => xX ad cI cL S K n wc dn w lw sy sb sh rw rk dr)) := by
  have hV2 := hV
  obtain ⟨hS0, hS3, hK0, hK4, hn6, hw, hlw, hsK, hok⟩ := hV
  have hsy : ∀ p, p < n → sy p < 4 := fun p h => Nat.lt_of_lt_of_le (hsK p h) hK4
  have hcb := xq_clb (a := ka) hS3 hK4
  have hrb := xq_rwb (a := ka) hS0 hS3
  refine xt_start (own := RX0) rfl (by decide) (Nat.le_of_ble_eq_true rfl) (fun pg ev ss mi args below meth cd A Q ls C hE hA hl hW => ?_)
  replace hl : lv_has ls 5 [(0, .ref (ad 0)), (1, .int (nI ka)), (2, .int (nI kb)), (3, .long (lN u))] := hl
  refine lv_lload_n C.1 C.2.1 dX0_learnedWhole_0 rfl (lv_at hl 3 rfl) ?_
  refine xt_lconst C 0 dX0_learnedWhole_1 (by decide +kernel) ?_
  refine xt_l_eq C (by rw [hue]; exact Nat.lt_of_le_of_lt (xq_rub hS0 hS3 hK4 hn6 hw hsy ha3 hbr) (by decide)) (by decide) dX0_learnedWhole_2 dX0_learnedWhole_3 (tgt := 10) (by decide) (fun h2 => ?_) (fun h2 => ?_)
  · refine lv_aload_n C.1 C.2.1 dX0_learnedWhole_10 rfl (lv_at hl 0 rfl) ?_
    refine lv_iload_n C.1 C.2.1 dX0_learnedWhole_11 rfl (lv_at hl 1 rfl) ?_
    refine lv_iload_n C.1 C.2.1 dX0_learnedWhole_12 rfl (lv_at hl 2 rfl) ?_
    refine xt_cl hA hW (xt_runV C hW.1 hW.2.1 cwX0_X0_weightOfRow (cx_weightOfRow l D cI cL ad S K n wc dn w lw sy sb sh rw rk dr ka kb (hV2) (by omega) (by omega)) rfl rfl rfl hl.1 (rest := []) rfl (Nat.le_of_ble_eq_true rfl) ⟨(Nat.le_of_ble_eq_true rfl), (Nat.le_of_ble_eq_true rfl)⟩ ⟨Nat.zero_le _, Nat.zero_le _⟩ dX0_learnedWhole_13) (fun r13 u H locs hp13 hW => ?_)
    replace hW : xt_W D A ss.heap (xX ad cI cL S K n wc dn w lw sy sb sh rw rk dr) H locs := hW
    subst hp13
    exact xt_lret C hE () hW (by show lN _ = lN _; unfold xq_wh; rw [← hue]; first | rw [if_pos h2] | rw [if_neg h2]) dX0_learnedWhole_16
  · refine lv_lload_n C.1 C.2.1 dX0_learnedWhole_6 rfl (lv_at hl 3 rfl) ?_
    refine lv_goto C.1 C.2.1 dX0_learnedWhole_7 (tgt := 16) (by decide) ?_
    exact xt_lret C hE () hW (by show lN _ = lN _; unfold xq_wh; rw [← hue]; first | rw [if_pos h2] | rw [if_neg h2]) dX0_learnedWhole_16
set_option maxHeartbeats 4000000 in
set_option maxRecDepth 100000 in
theorem cx_nearest (l : Launch) (D : va_G) (cI cL : ClassId) (ws : va_W) (x : Nat) (y : Nat) (hx6 : x < 2 ^ 61) (hy6 : y < 2 ^ 61) : xt_M l yX0_nearest cX0_nearest 4 (some .int) 0 D cI cL [.long (lN x), .long (lN y)] (ws) (xt_Qi D cI cL (ws) (fun (r : Int32) (u : Unit) => r = nI (if y = 0 then 0 else (2 * x + y) / (2 * y))) (fun u => ws)) := by
  refine xt_start (own := RX0) rfl (by decide) (Nat.le_of_ble_eq_true rfl) (fun pg ev ss mi args below meth cd A Q ls C hE hA hl hW => ?_)
  replace hl : lv_has ls 4 [(0, .long (lN x)), (2, .long (lN y))] := hl
  refine lv_lload_n C.1 C.2.1 dX0_nearest_0 rfl (lv_at hl 1 rfl) ?_
  refine xt_lconst C 0 dX0_nearest_1 (by decide +kernel) ?_
  refine xt_l_le C (by omega) (by omega) dX0_nearest_2 dX0_nearest_3 (tgt := 23) (by decide) (fun h2 => ?_) (fun h2 => ?_)
  · refine xt_iconst C 0 dX0_nearest_23 (by decide +kernel) ?_
    exact xt_iret C hE () hW (by show nI _ = nI _; first | rw [if_pos (by omega)] | rw [if_neg (by omega)]) dX0_nearest_24
  · refine xt_ldc2 C 2 (clX0_172) dX0_nearest_6 (by decide +kernel) ?_
    refine lv_lload_n C.1 C.2.1 dX0_nearest_9 rfl (lv_at hl 0 rfl) ?_
    refine xt_lmul C dX0_nearest_10 ?_
    refine lv_lload_n C.1 C.2.1 dX0_nearest_11 rfl (lv_at hl 1 rfl) ?_
    refine xt_ladd C dX0_nearest_12 ?_
    refine xt_ldc2 C 2 (clX0_172) dX0_nearest_13 (by decide +kernel) ?_
    refine lv_lload_n C.1 C.2.1 dX0_nearest_16 rfl (lv_at hl 1 rfl) ?_
    refine xt_lmul C dX0_nearest_17 ?_
    refine xt_ldiv C dX0_nearest_18 (by omega) (by omega) (by omega) ?_
    refine xt_l2i C dX0_nearest_19 ?_
    refine lv_goto C.1 C.2.1 dX0_nearest_20 (tgt := 24) (by decide) ?_
    exact xt_iret C hE () hW (by show nI _ = nI _; first | rw [if_pos (by omega)] | rw [if_neg (by omega)]) dX0_nearest_24
set_option maxHeartbeats 4000000 in
set_option maxRecDepth 100000 in
theorem cx_learnRow (l : Launch) (D : va_G) (cI cL : ClassId) (ad : Nat → Nat) (S K n wc dn : Nat) (w lw sy sb sh rw rk dr : Nat → Nat) (ka : Nat) (kb : Nat) (hV : xq_V S K n wc w lw sy sb sh rw rk) (ha3 : ka < 3) (hbr : kb < xq_rw S ka) : xt_M l yX0_learnRow cX0_learnRow 10 (some .int) 5 D cI cL [.ref (ad 0), .int (nI ka), .int (nI kb)] (xX ad cI cL S K n wc dn w lw sy sb sh rw rk dr) (xt_Qi D cI cL (xX ad cI cL S K n wc dn w lw sy sb sh rw rk dr) (fun (r : Int32) (u : (Nat → Nat)) => r = nI (ms_sum (fun z1 => xq_lv S K n w sy ka kb z1) (xq_cl S K ka)) ∧ (∀ z1, z1 < xq_cl S K ka → u ((ka * 3 + kb) * 4 + z1) = xq_lv S K n w sy ka kb z1) ∧ (∀ z2, (∀ z1, z1 < xq_cl S K ka → z2 ≠ (ka * 3 + kb) * 4 + z1) → u z2 = lw z2) ∧ (∀ z2, z2 < 36 → u z2 ≤ 9)) (fun u => xX ad cI cL S K n wc dn w u sy sb sh rw rk dr)) := by
  have hV2 := hV
  obtain ⟨hS0, hS3, hK0, hK4, hn6, hw, hlw, hsK, hok⟩ := hV
  have hsy : ∀ p, p < n → sy p < 4 := fun p h => Nat.lt_of_lt_of_le (hsK p h) hK4
  have hcb := xq_clb (a := ka) hS3 hK4
  have hrb := xq_rwb (a := ka) hS0 hS3
  have hwhb := xq_whb (n := n) (K := K) hS0 hS3 hK4 hn6 hw hsy ha3 hbr
  refine xt_start (own := RX0) rfl (by decide) (Nat.le_of_ble_eq_true rfl) (fun pg ev ss mi args below meth cd A Q ls C hE hA hl hW => ?_)
  replace hl : lv_has ls 10 [(0, .ref (ad 0)), (1, .int (nI ka)), (2, .int (nI kb))] := hl
  refine xt_iconst C 0 dX0_learnRow_0 (by decide +kernel) ?_
  refine lv_istore_n C.1 C.2.1 dX0_learnRow_1 rfl hl (by decide) rfl (fun ls hl => ?_)
  replace hl : lv_has ls 10 [(3, .int (nI 0)), (0, .ref (ad 0)), (1, .int (nI ka)), (2, .int (nI kb))] := hl
  refine lv_aload_n C.1 C.2.1 dX0_learnRow_2 rfl (lv_at hl 1 rfl) ?_
  refine lv_iload_n C.1 C.2.1 dX0_learnRow_3 rfl (lv_at hl 2 rfl) ?_
  refine lv_iload_n C.1 C.2.1 dX0_learnRow_4 rfl (lv_at hl 3 rfl) ?_
  refine xt_cl hA hW (xt_runV C hW.1 hW.2.1 cwX0_X0_unitsOfRow (cx_unitsOfRow l D cI cL ad S K n wc dn w lw sy sb sh rw rk dr ka kb (hV2) (by omega) (by omega)) rfl rfl rfl hl.1 (rest := []) rfl (Nat.le_of_ble_eq_true rfl) ⟨(Nat.le_of_ble_eq_true rfl), (Nat.le_of_ble_eq_true rfl)⟩ ⟨Nat.zero_le _, Nat.zero_le _⟩ dX0_learnRow_5) (fun r5 u H locs hp5 hW => ?_)
  replace hW : xt_W D A ss.heap (xX ad cI cL S K n wc dn w lw sy sb sh rw rk dr) H locs := hW
  subst hp5
  refine lv_lstore C.1 C.2.1 dX0_learnRow_8 hl (by decide) rfl (fun ls hl => ?_)
  replace hl : lv_has ls 10 [(4, .long (lN (xq_ru S K n w sy ka kb))), (3, .int (nI 0)), (0, .ref (ad 0)), (1, .int (nI ka)), (2, .int (nI kb))] := hl
  refine lv_aload_n C.1 C.2.1 dX0_learnRow_10 rfl (lv_at hl 2 rfl) ?_
  refine lv_iload_n C.1 C.2.1 dX0_learnRow_11 rfl (lv_at hl 3 rfl) ?_
  refine lv_iload_n C.1 C.2.1 dX0_learnRow_12 rfl (lv_at hl 4 rfl) ?_
  refine lv_lload C.1 C.2.1 dX0_learnRow_13 (lv_at hl 0 rfl) ?_
  refine xt_cl hA hW (xt_runV C hW.1 hW.2.1 cwX0_X0_learnedWhole (cx_learnedWhole l D cI cL ad S K n wc dn w lw sy sb sh rw rk dr ka kb (xq_ru S K n w sy ka kb) (hV2) (by omega) (by omega) (rfl)) rfl rfl rfl hl.1 (rest := []) rfl (Nat.le_of_ble_eq_true rfl) ⟨(Nat.le_of_ble_eq_true rfl), (Nat.le_of_ble_eq_true rfl)⟩ ⟨Nat.zero_le _, Nat.zero_le _⟩ dX0_learnRow_15) (fun r15 u H locs hp15 hW => ?_)
  replace hW : xt_W D A ss.heap (xX ad cI cL S K n wc dn w lw sy sb sh rw rk dr) H locs := hW
  subst hp15
  refine W.eq (g2 := F0 mi 18 ls [.long (lN (xq_wh S K n w sy ka kb))]) rfl ?_
  refine lv_lstore C.1 C.2.1 dX0_learnRow_18 hl (by decide) rfl (fun ls hl => ?_)
  replace hl : lv_has ls 10 [(6, .long (lN (xq_wh S K n w sy ka kb))), (4, .long (lN (xq_ru S K n w sy ka kb))), (3, .int (nI 0)), (0, .ref (ad 0)), (1, .int (nI ka)), (2, .int (nI kb))] := hl
  refine xt_iconst C 0 dX0_learnRow_20 (by decide +kernel) ?_
  refine lv_istore C.1 C.2.1 dX0_learnRow_21 hl (by decide) rfl (fun ls hl => ?_)
  replace hl : lv_has ls 10 [(8, .int (nI 0)), (6, .long (lN (xq_wh S K n w sy ka kb))), (4, .long (lN (xq_ru S K n w sy ka kb))), (3, .int (nI 0)), (0, .ref (ad 0)), (1, .int (nI ka)), (2, .int (nI kb))] := hl
  have lp23 : ∀ (q : Nat) (i : Nat) (lv : Nat → Nat), xq_cl S K ka - i = q → (i ≤ xq_cl S K ka) → (∀ z1, z1 < i → lv ((ka * 3 + kb) * 4 + z1) = xq_lv S K n w sy ka kb z1) → (∀ z2, (∀ z1, z1 < xq_cl S K ka → z2 ≠ (ka * 3 + kb) * 4 + z1) → lv z2 = lw z2) → (∀ z2, z2 < 36 → lv z2 ≤ 9) → ∀ (ls : Array Slot) (H : Heap) (locs : List Loc), lv_has ls 10 [(8, .int (nI i)), (3, .int (nI (ms_sum (fun z1 => xq_lv S K n w sy ka kb z1) i))), (6, .long (lN (xq_wh S K n w sy ka kb))), (4, .long (lN (xq_ru S K n w sy ka kb))), (0, .ref (ad 0)), (1, .int (nI ka)), (2, .int (nI kb))] → xt_W D A ss.heap (xX ad cI cL S K n wc dn w lv sy sb sh rw rk dr) H locs → W pg l ev (xt_R 5) ss mi args below meth cd H locs 0 0 Q (F0 mi 23 ls []) := by
    intro q
    induction q using Nat.strongRecOn with
    | _ q ih23 =>
      intro i lv hq23 hi h1 h2 h3 ls H locs hl hW
      refine lv_iload C.1 C.2.1 dX0_learnRow_23 (lv_at hl 0 rfl) ?_
      refine lv_aload_n C.1 C.2.1 dX0_learnRow_25 rfl (lv_at hl 4 rfl) ?_
      refine lv_iload_n C.1 C.2.1 dX0_learnRow_26 rfl (lv_at hl 5 rfl) ?_
      refine xt_ci hA hW (xt_runV C hW.1 hW.2.1 cwX0_X0_columnsOf (cx_columnsOf l D cI cL ad S K n wc dn w lv sy sb sh rw rk dr ka (by omega)) rfl rfl rfl hl.1 (rest := [.int (nI i)]) rfl (Nat.le_of_ble_eq_true rfl) ⟨(Nat.le_of_ble_eq_true rfl), (Nat.le_of_ble_eq_true rfl)⟩ ⟨Nat.zero_le _, Nat.zero_le _⟩ dX0_learnRow_27) (fun r27 u H locs hp27 hW => ?_)
      replace hW : xt_W D A ss.heap (xX ad cI cL S K n wc dn w lv sy sb sh rw rk dr) H locs := hW
      subst hp27
      rw [show (if ka = 2 then K else S) = xq_cl S K ka from rfl]
      refine xt_icmp_ge C (by omega) (by omega) dX0_learnRow_30 (tgt := 79) (by decide) (fun h30 => ?_) (fun h30 => ?_)
      · refine lv_iload_n C.1 C.2.1 dX0_learnRow_79 rfl (lv_at hl 1 rfl) ?_
        exact xt_iret C hE lv hW (⟨by show nI (ms_sum _ i) = nI _; rw [show i = xq_cl S K ka by omega], fun z1 hz => h1 z1 (by omega), h2, h3⟩) dX0_learnRow_80
      · refine xt_ldc2 C 9 (clX0_166) dX0_learnRow_33 (by decide +kernel) ?_
        refine lv_aload_n C.1 C.2.1 dX0_learnRow_36 rfl (lv_at hl 4 rfl) ?_
        refine lv_iload_n C.1 C.2.1 dX0_learnRow_37 rfl (lv_at hl 5 rfl) ?_
        refine lv_iload_n C.1 C.2.1 dX0_learnRow_38 rfl (lv_at hl 6 rfl) ?_
        refine lv_iload C.1 C.2.1 dX0_learnRow_39 (lv_at hl 0 rfl) ?_
        refine lv_lload C.1 C.2.1 dX0_learnRow_41 (lv_at hl 3 rfl) ?_
        refine xt_cl hA hW (xt_runV C hW.1 hW.2.1 cwX0_X0_learnedPortion (cx_learnedPortion l D cI cL ad S K n wc dn w lv sy sb sh rw rk dr ka kb i (xq_ru S K n w sy ka kb) (xq_Vlw hV2 h3) (by omega) (by omega) (by omega) (rfl)) rfl rfl rfl hl.1 (rest := [.long (lN 9)]) rfl (Nat.le_of_ble_eq_true rfl) ⟨(Nat.le_of_ble_eq_true rfl), (Nat.le_of_ble_eq_true rfl)⟩ ⟨Nat.zero_le _, Nat.zero_le _⟩ dX0_learnRow_43) (fun r43 u H locs hp43 hW => ?_)
        replace hW : xt_W D A ss.heap (xX ad cI cL S K n wc dn w lv sy sb sh rw rk dr) H locs := hW
        subst hp43
        have hpb := xq_pow (S := S) (K := K) (n := n) (w := w) (sy := sy) (a := ka) (b := kb) (c := i) (by omega)
        refine xt_lmul C dX0_learnRow_46 ?_
        refine lv_lload C.1 C.2.1 dX0_learnRow_47 (lv_at hl 2 rfl) ?_
        refine xt_ci hA hW (xt_runS C hW.1 hW.2.1 cwX0_X0_nearest (cx_nearest l D cI cL (xX ad cI cL S K n wc dn w lv sy sb sh rw rk dr) (9 * (xq_po S K n w sy ka kb i)) (xq_wh S K n w sy ka kb) (by omega) (by omega)) rfl hl.1 (rest := []) rfl (Nat.le_of_ble_eq_true rfl) ⟨(Nat.le_of_ble_eq_true rfl), (Nat.le_of_ble_eq_true rfl)⟩ ⟨Nat.zero_le _, Nat.zero_le _⟩ dX0_learnRow_49) (fun r49 u H locs hp49 hW => ?_)
        replace hW : xt_W D A ss.heap (xX ad cI cL S K n wc dn w lv sy sb sh rw rk dr) H locs := hW
        subst hp49
        refine lv_istore C.1 C.2.1 dX0_learnRow_52 hl (by decide) rfl (fun ls hl => ?_)
        replace hl : lv_has ls 10 [(9, .int (nI (xq_lv S K n w sy ka kb i))), (8, .int (nI i)), (3, .int (nI (ms_sum (fun z1 => xq_lv S K n w sy ka kb z1) i))), (6, .long (lN (xq_wh S K n w sy ka kb))), (4, .long (lN (xq_ru S K n w sy ka kb))), (0, .ref (ad 0)), (1, .int (nI ka)), (2, .int (nI kb))] := hl
        refine lv_aload_n C.1 C.2.1 dX0_learnRow_54 rfl (lv_at hl 5 rfl) ?_
        refine W.eq (g2 := F0 mi 55 ls [.ref (ad 0)]) rfl ?_
        refine xt_get xt_inX0 C hW 0 rfl rfl 3 (by decide) rfl flX0_learnedWeights rfl dX0_learnRow_55 ?_
        refine lv_iload_n C.1 C.2.1 dX0_learnRow_58 rfl (lv_at hl 6 rfl) ?_
        refine lv_iload_n C.1 C.2.1 dX0_learnRow_59 rfl (lv_at hl 7 rfl) ?_
        refine lv_iload C.1 C.2.1 dX0_learnRow_60 (lv_at hl 1 rfl) ?_
        refine xt_ci hA hW (xt_runS C hW.1 hW.2.1 cwX0_X0_slot (cx_slot l D cI cL (xX ad cI cL S K n wc dn w lv sy sb sh rw rk dr) ka kb i) rfl hl.1 (rest := [.ref (ad 2)]) rfl (Nat.le_of_ble_eq_true rfl) ⟨(Nat.le_of_ble_eq_true rfl), (Nat.le_of_ble_eq_true rfl)⟩ ⟨Nat.zero_le _, Nat.zero_le _⟩ dX0_learnRow_62) (fun r62 u H locs hp62 hW => ?_)
        replace hW : xt_W D A ss.heap (xX ad cI cL S K n wc dn w lv sy sb sh rw rk dr) H locs := hW
        subst hp62
        refine lv_iload C.1 C.2.1 dX0_learnRow_65 (lv_at hl 0 rfl) ?_
        refine xt_iast C hW 2 rfl (by decide) dX0_learnRow_67 (by omega) (fun H locs hW => ?_)
        replace hW : xt_W D A ss.heap (xX ad cI cL S K n wc dn w (va_up lv ((ka * 3 + kb) * 4 + i) (xq_lv S K n w sy ka kb i)) sy sb sh rw rk dr) H locs := hW
        refine lv_iload_n C.1 C.2.1 dX0_learnRow_68 rfl (lv_at hl 2 rfl) ?_
        refine lv_iload C.1 C.2.1 dX0_learnRow_69 (lv_at hl 0 rfl) ?_
        refine xt_iadd C dX0_learnRow_71 ?_
        refine lv_istore_n C.1 C.2.1 dX0_learnRow_72 rfl hl (by decide) rfl (fun ls hl => ?_)
        replace hl : lv_has ls 10 [(3, .int (nI ((ms_sum (fun z1 => xq_lv S K n w sy ka kb z1) i) + (xq_lv S K n w sy ka kb i)))), (9, .int (nI (xq_lv S K n w sy ka kb i))), (8, .int (nI i)), (6, .long (lN (xq_wh S K n w sy ka kb))), (4, .long (lN (xq_ru S K n w sy ka kb))), (0, .ref (ad 0)), (1, .int (nI ka)), (2, .int (nI kb))] := hl
        refine lv_iinc (k := 2) C.1 C.2.1 dX0_learnRow_73 hl rfl xt_inc (by decide) rfl (fun ls hl => ?_)
        replace hl : lv_has ls 10 [(8, .int (nI (i + 1))), (3, .int (nI ((ms_sum (fun z1 => xq_lv S K n w sy ka kb z1) i) + (xq_lv S K n w sy ka kb i)))), (9, .int (nI (xq_lv S K n w sy ka kb i))), (6, .long (lN (xq_wh S K n w sy ka kb))), (4, .long (lN (xq_ru S K n w sy ka kb))), (0, .ref (ad 0)), (1, .int (nI ka)), (2, .int (nI kb))] := hl
        refine W.eq (g2 := F0 mi 76 ls []) rfl ?_
        refine lv_goto C.1 C.2.1 dX0_learnRow_76 (tgt := 23) (by decide) ?_
        exact ih23 _ (by omega) (i + 1) (va_up lv ((ka * 3 + kb) * 4 + i) (xq_lv S K n w sy ka kb i)) rfl (by omega) (fun z1 hz => if e : z1 = i then (by rw [e, xq_up]) else (by rw [xq_un (by omega)]; exact h1 z1 (by omega))) (fun z2 hz => by rw [xq_un (hz i (by omega))]; exact h2 z2 hz) (xq_upb h3 (xq_lvb (by omega))) ls _ _ (lv_sub hl [0, 1, 3, 4, 5, 6, 7] rfl) hW
  exact lp23 _ 0 lw rfl (Nat.zero_le _) (fun z1 h => absurd h (Nat.not_lt_zero z1)) (fun z2 _ => rfl) (hlw) ls _ _ (lv_sub hl [0, 3, 1, 2, 4, 5, 6] rfl) hW
