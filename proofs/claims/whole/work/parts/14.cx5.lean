def xq_ok (S n : Nat) (w sy sb sh : Nat → Nat) (wc : Nat) (rw rk : Nat → Nat) : Prop :=
  (∀ q t, q < n → t < S → sb (q * 3 + t) = ms_bf (xe w sy) S q t) ∧ (∀ q t, q < n → t < S → sh (q * 3 + t) = ms_bh (xe w sy) S n (n - 1 - q) t) ∧ ∃ g, ms_rr (ms_wt (xe w sy) S n) (ms_pk S n) (S ^ n) wc rw rk g
theorem xq_fill {wv : Nat → Nat} {i k : Nat} (h : ∀ j, j < i → wv j = k) : ∀ j, j < i + 1 → va_up wv i k j = k := by
  intro j hj
  by_cases e : j = i
  · rw [e, xq_up]
  · rw [xq_un e]
    exact h j (by omega)
set_option maxHeartbeats 4000000 in
set_option maxRecDepth 100000 in
theorem cj_fill (l : Launch) (D : va_G) (cI cL : ClassId) (ad : Nat → Nat) (S K n wc dn : Nat) (w lw sy sb sh rw rk dr : Nat → Nat) (k : Nat) : xt_M l yJ7_fill cJ7_fill 4 none 0 D cI cL [.ref (ad 1), .int (nI k)] (xX ad cI cL S K n wc dn w lw sy sb sh rw rk dr) (xt_Qv D cI cL (xX ad cI cL S K n wc dn w lw sy sb sh rw rk dr) (fun (u : (Nat → Nat)) => ∀ j, j < 36 → u j = k) (fun u => xX ad cI cL S K n wc dn u lw sy sb sh rw rk dr)) := by
  refine xt_start (own := RJ7) rfl (by decide) (Nat.le_of_ble_eq_true rfl) (fun pg ev ss mi args below meth cd A Q ls C hE hA hl hW => ?_)
  replace hl : lv_has ls 4 [(0, .ref (ad 1)), (1, .int (nI k))] := hl
  refine xt_iconst C 0 dJ7_fill_0 (by decide +kernel) ?_
  refine lv_istore_n C.1 C.2.1 dJ7_fill_1 rfl hl (by decide) rfl (fun ls hl => ?_)
  replace hl : lv_has ls 4 [(2, .int (nI 0)), (0, .ref (ad 1)), (1, .int (nI k))] := hl
  refine lv_aload_n C.1 C.2.1 dJ7_fill_2 rfl (lv_at hl 1 rfl) ?_
  refine va_alen (v := nI 36) C.1 C.2.1 C.K hW.1 1 0 rfl rfl rfl dJ7_fill_3 ?_
  refine lv_istore_n C.1 C.2.1 dJ7_fill_4 rfl hl (by decide) rfl (fun ls hl => ?_)
  replace hl : lv_has ls 4 [(3, .int (nI 36)), (2, .int (nI 0)), (0, .ref (ad 1)), (1, .int (nI k))] := hl
  have lp5 : ∀ (q : Nat) (i : Nat) (wv : Nat → Nat), 36 - i = q → (i ≤ 36) → (∀ j, j < i → wv j = k) → ∀ (ls : Array Slot) (H : Heap) (locs : List Loc), lv_has ls 4 [(2, .int (nI i)), (3, .int (nI 36)), (0, .ref (ad 1)), (1, .int (nI k))] → xt_W D A ss.heap (xX ad cI cL S K n wc dn wv lw sy sb sh rw rk dr) H locs → W pg l ev (xt_R 0) ss mi args below meth cd H locs 0 0 Q (F0 mi 5 ls []) := by
    intro q
    induction q using Nat.strongRecOn with
    | _ q ih5 =>
      intro i wv hq5 hi hv ls H locs hl hW
      refine lv_iload_n C.1 C.2.1 dJ7_fill_5 rfl (lv_at hl 0 rfl) ?_
      refine lv_iload_n C.1 C.2.1 dJ7_fill_6 rfl (lv_at hl 1 rfl) ?_
      refine xt_icmp_ge C (by omega) (by omega) dJ7_fill_7 (tgt := 20) (by decide) (fun h7 => ?_) (fun h7 => ?_)
      · exact xt_vret C hE wv hW (fun j hj => hv j (by omega)) dJ7_fill_20
      · refine lv_aload_n C.1 C.2.1 dJ7_fill_10 rfl (lv_at hl 2 rfl) ?_
        refine lv_iload_n C.1 C.2.1 dJ7_fill_11 rfl (lv_at hl 0 rfl) ?_
        refine lv_iload_n C.1 C.2.1 dJ7_fill_12 rfl (lv_at hl 3 rfl) ?_
        refine xt_iast C hW 1 rfl (by decide) dJ7_fill_13 (by omega) (fun H locs hW => ?_)
        replace hW : xt_W D A ss.heap (xX ad cI cL S K n wc dn (va_up wv i k) lw sy sb sh rw rk dr) H locs := hW
        refine lv_iinc (k := 0) C.1 C.2.1 dJ7_fill_14 hl rfl xt_inc (by decide) rfl (fun ls hl => ?_)
        replace hl : lv_has ls 4 [(2, .int (nI (i + 1))), (3, .int (nI 36)), (0, .ref (ad 1)), (1, .int (nI k))] := hl
        refine lv_goto C.1 C.2.1 dJ7_fill_17 (tgt := 5) (by decide) ?_
        exact ih5 _ (by omega) (i + 1) (va_up wv i k) rfl (by omega) (xq_fill hv) ls _ _ (lv_sub hl [0, 1, 2, 3] rfl) hW
  exact lp5 _ 0 w rfl (Nat.zero_le _) (fun j h => absurd h (Nat.not_lt_zero j)) ls _ _ (lv_sub hl [1, 0, 2, 3] rfl) hW
set_option maxHeartbeats 4000000 in
set_option maxRecDepth 100000 in
theorem cx_reckon (l : Launch) (D : va_G) (cI cL : ClassId) (ad : Nat → Nat) (S K n wc dn : Nat) (w lw sy sb sh rw rk dr : Nat → Nat) (hn6 : n ≤ 6) (hS3 : S ≤ 3) (hS0 : 0 < S) (hw : ∀ i, i < 36 → w i ≤ 9) (hsy : ∀ p, p < n → sy p < 4) : xt_M l yX0_reckon cX0_reckon 1 none 9 D cI cL [.ref (ad 0)] (xX ad cI cL S K n wc dn w lw sy sb sh rw rk dr) (xt_Qv D cI cL (xX ad cI cL S K n wc dn w lw sy sb sh rw rk dr) (fun (u : (Nat → Nat) × (Nat → Nat) × (Nat) × (Nat → Nat) × (Nat → Nat)) => xq_ok S n w sy u.1 u.2.1 u.2.2.1 u.2.2.2.1 u.2.2.2.2) (fun u => xX ad cI cL S K n u.2.2.1 dn w lw sy u.1 u.2.1 u.2.2.2.1 u.2.2.2.2 dr)) := by
  refine xt_start (own := RX0) rfl (by decide) (Nat.le_of_ble_eq_true rfl) (fun pg ev ss mi args below meth cd A Q ls C hE hA hl hW => ?_)
  replace hl : lv_has ls 1 [(0, .ref (ad 0))] := hl
  refine lv_aload_n C.1 C.2.1 dX0_reckon_0 rfl (lv_at hl 0 rfl) ?_
  refine xt_cvd hA hW (xt_runV C hW.1 hW.2.1 cwX0_X0_sumBefore (cx_sumBefore l D cI cL ad S K n wc dn w lw sy sb sh rw rk dr (by omega) (by omega) (by omega) (hw) (hsy)) rfl rfl rfl hl.1 (rest := []) rfl (Nat.le_of_ble_eq_true rfl) ⟨(Nat.le_of_ble_eq_true rfl), (Nat.le_of_ble_eq_true rfl)⟩ ⟨Nat.zero_le _, Nat.zero_le _⟩ dX0_reckon_1) (fun u H locs hp1 hW => ?_)
  obtain ⟨sb_1, rfl⟩ : ∃ z, z = u := ⟨_, rfl⟩
  replace hW : xt_W D A ss.heap (xX ad cI cL S K n wc dn w lw sy sb_1 sh rw rk dr) H locs := hW
  replace hp1 : ∀ q t, q < n → t < S → sb_1 (q * 3 + t) = ms_bf (xe w sy) S q t := hp1
  refine lv_aload_n C.1 C.2.1 dX0_reckon_4 rfl (lv_at hl 0 rfl) ?_
  refine xt_cvd hA hW (xt_runV C hW.1 hW.2.1 cwX0_X0_sumBehind (cx_sumBehind l D cI cL ad S K n wc dn w lw sy sb_1 sh rw rk dr (by omega) (by omega) (by omega) (hw) (hsy)) rfl rfl rfl hl.1 (rest := []) rfl (Nat.le_of_ble_eq_true rfl) ⟨(Nat.le_of_ble_eq_true rfl), (Nat.le_of_ble_eq_true rfl)⟩ ⟨Nat.zero_le _, Nat.zero_le _⟩ dX0_reckon_5) (fun u H locs hp5 hW => ?_)
  obtain ⟨sh_5, rfl⟩ : ∃ z, z = u := ⟨_, rfl⟩
  replace hW : xt_W D A ss.heap (xX ad cI cL S K n wc dn w lw sy sb_1 sh_5 rw rk dr) H locs := hW
  replace hp5 : ∀ q t, q < n → t < S → sh_5 (q * 3 + t) = ms_bh (xe w sy) S n (n - 1 - q) t := hp5
  refine lv_aload_n C.1 C.2.1 dX0_reckon_8 rfl (lv_at hl 0 rfl) ?_
  refine xt_iconst C 0 dX0_reckon_9 (by decide +kernel) ?_
  refine xt_put (ty := .int) xt_inX0 tyX0 tyX0_ok nmX0 C hW 0 rfl rfl 8 (by decide) rfl flX0_wayCount rfl (by decide +kernel) rfl rfl (Nat.le_of_ble_eq_true rfl) dX0_reckon_10 (fun H locs hW => ?_)
  replace hW : xt_W D A ss.heap (xX ad cI cL S K n 0 dn w lw sy sb_1 sh_5 rw rk dr) H locs := hW
  refine lv_aload_n C.1 C.2.1 dX0_reckon_13 rfl (lv_at hl 0 rfl) ?_
  refine xt_iconst C 0 dX0_reckon_14 (by decide +kernel) ?_
  refine xt_iconst C 0 dX0_reckon_15 (by decide +kernel) ?_
  refine xt_lconst C 1 dX0_reckon_16 (by decide +kernel) ?_
  refine xt_cvd hA hW (xt_runV C hW.1 hW.2.1 cwX0_X0_rankFrom (cx_rankFrom l D cI cL ad n S K n 0 dn w lw sy sb_1 sh_5 rw rk dr 0 0 1 0 (fun _ => 0) (Nat.zero_add n) (hn6) (hS3) (hS0) (hw) (hsy) (rfl) (rfl) (Nat.one_ne_zero) (Nat.one_pos) (by rw [Nat.zero_mul]; exact ms_rr_0 _ _ _ _ _)) rfl rfl rfl hl.1 (rest := []) rfl (Nat.le_of_ble_eq_true rfl) ⟨(by show (n + 2) + 1 ≤ 9; omega), (by show 8 + (8 + 11) + 40 * (n + 2) ≤ 40 * 9; omega)⟩ ⟨Nat.zero_le _, Nat.zero_le _⟩ dX0_reckon_17) (fun u H locs hp17 hW => ?_)
  obtain ⟨wc_17, rw_17, rk_17⟩ := u
  replace hW : xt_W D A ss.heap (xX ad cI cL S K n wc_17 dn w lw sy sb_1 sh_5 rw_17 rk_17 dr) H locs := hW
  replace hp17 : ∃ g2, ms_rr (ms_wt (xe w sy) S n) (ms_pk S n) ((0 + 1) * S ^ n) wc_17 rw_17 rk_17 g2 := hp17
  refine W.eq (g2 := F0 mi 20 ls []) rfl ?_
  exact xt_vret C hE (sb_1, sh_5, wc_17, rw_17, rk_17) hW (by rw [Nat.zero_add, Nat.one_mul] at hp17; exact ⟨hp1, hp5, hp17⟩) dX0_reckon_20
set_option maxHeartbeats 4000000 in
set_option maxRecDepth 100000 in
theorem cx_startAnew (l : Launch) (D : va_G) (cI cL : ClassId) (ad : Nat → Nat) (S K n wc dn : Nat) (w lw sy sb sh rw rk dr : Nat → Nat) (a : Nat) (b : Nat) (ha1 : 1 ≤ a) (ha3 : a ≤ 3) : xt_M l yX0_startAnew cX0_startAnew 3 none 10 D cI cL [.ref (ad 0), .int (nI a), .int (nI b)] (xX ad cI cL S K n wc dn w lw sy sb sh rw rk dr) (xt_Qv D cI cL (xX ad cI cL S K n wc dn w lw sy sb sh rw rk dr) (fun (u : (Nat → Nat) × (Nat → Nat) × (Nat → Nat) × (Nat) × (Nat → Nat) × (Nat → Nat)) => (∀ j, j < 36 → u.1 j = 1) ∧ xq_ok a 0 u.1 sy u.2.1 u.2.2.1 u.2.2.2.1 u.2.2.2.2.1 u.2.2.2.2.2) (fun u => xX ad cI cL a b 0 u.2.2.2.1 0 u.1 lw sy u.2.1 u.2.2.1 u.2.2.2.2.1 u.2.2.2.2.2 dr)) := by
  refine xt_start (own := RX0) rfl (by decide) (Nat.le_of_ble_eq_true rfl) (fun pg ev ss mi args below meth cd A Q ls C hE hA hl hW => ?_)
  replace hl : lv_has ls 3 [(0, .ref (ad 0)), (1, .int (nI a)), (2, .int (nI b))] := hl
  refine lv_aload_n C.1 C.2.1 dX0_startAnew_0 rfl (lv_at hl 0 rfl) ?_
  refine lv_iload_n C.1 C.2.1 dX0_startAnew_1 rfl (lv_at hl 1 rfl) ?_
  refine xt_put (ty := .int) xt_inX0 tyX0 tyX0_ok nmX0 C hW 0 rfl rfl 0 (by decide) rfl flX0_stateCount rfl (by decide +kernel) rfl rfl (Nat.le_of_ble_eq_true rfl) dX0_startAnew_2 (fun H locs hW => ?_)
  replace hW : xt_W D A ss.heap (xX ad cI cL a K n wc dn w lw sy sb sh rw rk dr) H locs := hW
  refine lv_aload_n C.1 C.2.1 dX0_startAnew_5 rfl (lv_at hl 0 rfl) ?_
  refine lv_iload_n C.1 C.2.1 dX0_startAnew_6 rfl (lv_at hl 2 rfl) ?_
  refine xt_put (ty := .int) xt_inX0 tyX0 tyX0_ok nmX0 C hW 0 rfl rfl 1 (by decide) rfl flX0_symbolCount rfl (by decide +kernel) rfl rfl (Nat.le_of_ble_eq_true rfl) dX0_startAnew_7 (fun H locs hW => ?_)
  replace hW : xt_W D A ss.heap (xX ad cI cL a b n wc dn w lw sy sb sh rw rk dr) H locs := hW
  refine lv_aload_n C.1 C.2.1 dX0_startAnew_10 rfl (lv_at hl 0 rfl) ?_
  refine xt_iconst C 0 dX0_startAnew_11 (by decide +kernel) ?_
  refine xt_put (ty := .int) xt_inX0 tyX0 tyX0_ok nmX0 C hW 0 rfl rfl 4 (by decide) rfl flX0_seenCount rfl (by decide +kernel) rfl rfl (Nat.le_of_ble_eq_true rfl) dX0_startAnew_12 (fun H locs hW => ?_)
  replace hW : xt_W D A ss.heap (xX ad cI cL a b 0 wc dn w lw sy sb sh rw rk dr) H locs := hW
  refine lv_aload_n C.1 C.2.1 dX0_startAnew_15 rfl (lv_at hl 0 rfl) ?_
  refine xt_iconst C 0 dX0_startAnew_16 (by decide +kernel) ?_
  refine xt_put (ty := .int) xt_inX0 tyX0 tyX0_ok nmX0 C hW 0 rfl rfl 11 (by decide) rfl flX0_drawnCount rfl (by decide +kernel) rfl rfl (Nat.le_of_ble_eq_true rfl) dX0_startAnew_17 (fun H locs hW => ?_)
  replace hW : xt_W D A ss.heap (xX ad cI cL a b 0 wc 0 w lw sy sb sh rw rk dr) H locs := hW
  refine W.eq (g2 := F0 mi 20 ls []) rfl ?_
  refine lv_aload_n C.1 C.2.1 dX0_startAnew_20 rfl (lv_at hl 0 rfl) ?_
  refine xt_get xt_inX0 C hW 0 rfl rfl 2 (by decide) rfl flX0_weights rfl dX0_startAnew_21 ?_
  refine xt_iconst C 1 dX0_startAnew_24 (by decide +kernel) ?_
  refine xt_cvd hA hW (xt_runS C hW.1 hW.2.1 cwX0_J7_fill (cj_fill l D cI cL ad a b 0 wc 0 w lw sy sb sh rw rk dr 1) rfl hl.1 (rest := []) rfl (Nat.le_of_ble_eq_true rfl) ⟨(Nat.le_of_ble_eq_true rfl), (Nat.le_of_ble_eq_true rfl)⟩ ⟨Nat.zero_le _, Nat.zero_le _⟩ dX0_startAnew_25) (fun u H locs hp25 hW => ?_)
  obtain ⟨w_25, rfl⟩ : ∃ z, z = u := ⟨_, rfl⟩
  replace hW : xt_W D A ss.heap (xX ad cI cL a b 0 wc 0 w_25 lw sy sb sh rw rk dr) H locs := hW
  replace hp25 : ∀ j, j < 36 → w_25 j = 1 := hp25
  refine lv_aload_n C.1 C.2.1 dX0_startAnew_28 rfl (lv_at hl 0 rfl) ?_
  refine xt_cvd hA hW (xt_runV C hW.1 hW.2.1 cwX0_X0_reckon (cx_reckon l D cI cL ad a b 0 wc 0 w_25 lw sy sb sh rw rk dr (by omega) (by omega) (by omega) (fun i h => by rw [hp25 i h]; decide) (fun p h => absurd h (Nat.not_lt_zero p))) rfl rfl rfl hl.1 (rest := []) rfl (Nat.le_of_ble_eq_true rfl) ⟨(Nat.le_of_ble_eq_true rfl), (Nat.le_of_ble_eq_true rfl)⟩ ⟨Nat.zero_le _, Nat.zero_le _⟩ dX0_startAnew_29) (fun u H locs hp29 hW => ?_)
  obtain ⟨sb_29, sh_29, wc_29, rw_29, rk_29⟩ := u
  replace hW : xt_W D A ss.heap (xX ad cI cL a b 0 wc_29 0 w_25 lw sy sb_29 sh_29 rw_29 rk_29 dr) H locs := hW
  replace hp29 : xq_ok a 0 w_25 sy sb_29 sh_29 wc_29 rw_29 rk_29 := hp29
  exact xt_vret C hE (w_25, sb_29, sh_29, wc_29, rw_29, rk_29) hW (⟨hp25, hp29⟩) dX0_startAnew_32
