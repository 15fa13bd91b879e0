/-- the reference's cells: its object, its six rows -/
def xM (am : Nat → Nat) (cI cL : ClassId) (S K n iz dz tp bt : Nat) (w ro wa ch al fr : Nat → Nat) : va_W :=
  [(am 0, .inr (1, [.int (nI S), .int (nI K), .ref (am 1), .int (nI n), .ref (am 2), .ref (am 3), .int (nI iz), .int (nI dz), .ref (am 4), .ref (am 5), .ref (am 6), .long (lN tp), .long (lN bt)])),
   (am 1, xt_i cI 24 w), (am 2, xt_i cI 6 ro), (am 3, xt_i cI 6 wa), (am 4, xt_i cI 6 ch), (am 5, xt_l cL 729 al), (am 6, xt_i cI 24 fr)]
/-- a state of the reference that holds together -/
def mq_V (S K n : Nat) (w ro : Nat → Nat) : Prop := 0 < S ∧ S ≤ 3 ∧ 0 < K ∧ K ≤ 4 ∧ n ≤ 6 ∧ (∀ i, i < 24 → w i ≤ 9) ∧ (∀ p, p < n → ro p < K)
/-- a weight's place -/
def mq_sl (a b c : Nat) : Nat := if a = 0 then c else if a = 1 then 3 + 3 * b + c else 12 + 4 * b + c
theorem mq_slb {S K a b c : Nat} (hS3 : S ≤ 3) (hK4 : K ≤ 4) (h : xq_kr S K a b c) : mq_sl a b c < 24 := by
  unfold xq_kr at h
  unfold mq_sl
  rcases h with ⟨rfl, h1, h2⟩ | ⟨rfl, h1, h2⟩ | ⟨rfl, h1, h2⟩
  · rw [if_pos rfl]; omega
  · rw [if_neg (by decide), if_pos rfl]; omega
  · rw [if_neg (by decide), if_neg (by decide)]; omega
theorem mq_f1 {wv : Nat → Nat} {i : Nat} (h : ∀ j, j < i → wv j = 1) : ∀ j, j < i + 1 → va_up wv i 1 j = 1 := xq_fill h
set_option maxHeartbeats 4000000 in
set_option maxRecDepth 100000 in
theorem cm_clear (l : Launch) (D : va_G) (cI cL : ClassId) (am : Nat → Nat) (S K n iz dz tp bt : Nat) (w ro wa ch al fr : Nat → Nat) : xt_M l yX1_clear cX1_clear 2 none 0 D cI cL [.ref (am 0)] (xM am cI cL S K n iz dz tp bt w ro wa ch al fr) (xt_Qv D cI cL (xM am cI cL S K n iz dz tp bt w ro wa ch al fr) (fun (u : (Nat → Nat)) => ∀ j, j < 24 → u j = 1) (fun u => xM am cI cL S K 0 0 dz tp bt u ro wa ch al fr)) := by
  refine xt_start (own := RX1) rfl (by decide) (Nat.le_of_ble_eq_true rfl) (fun pg ev ss mi args below meth cd A Q ls C hE hA hl hW => ?_)
  replace hl : lv_has ls 2 [(0, .ref (am 0))] := hl
  refine xt_iconst C 0 dX1_clear_0 (by decide +kernel) ?_
  refine lv_istore_n C.1 C.2.1 dX1_clear_1 rfl hl (by decide) rfl (fun ls hl => ?_)
  replace hl : lv_has ls 2 [(1, .int (nI 0)), (0, .ref (am 0))] := hl
  have lp2 : ∀ (q : Nat) (i : Nat) (wv : Nat → Nat), 24 - i = q → (i ≤ 24) → (∀ j, j < i → wv j = 1) → ∀ (ls : Array Slot) (H : Heap) (locs : List Loc), lv_has ls 2 [(1, .int (nI i)), (0, .ref (am 0))] → xt_W D A ss.heap (xM am cI cL S K n iz dz tp bt wv ro wa ch al fr) H locs → W pg l ev (xt_R 0) ss mi args below meth cd H locs 0 0 Q (F0 mi 2 ls []) := by
    intro q
    induction q using Nat.strongRecOn with
    | _ q ih2 =>
      intro i wv hq2 hi hv ls H locs hl hW
      refine lv_iload_n C.1 C.2.1 dX1_clear_2 rfl (lv_at hl 0 rfl) ?_
      refine xt_bipush C 24 dX1_clear_3 (by decide +kernel) ?_
      refine xt_icmp_ge C (by omega) (by omega) dX1_clear_5 (tgt := 21) (by decide) (fun h5 => ?_) (fun h5 => ?_)
      · refine lv_aload_n C.1 C.2.1 dX1_clear_21 rfl (lv_at hl 1 rfl) ?_
        refine xt_iconst C 0 dX1_clear_22 (by decide +kernel) ?_
        refine xt_put (ty := .int) xt_inX1 tyX1 tyX1_ok nmX1 C hW 0 rfl rfl 3 (by decide) rfl flX1_n rfl (by decide +kernel) rfl rfl (Nat.le_of_ble_eq_true rfl) dX1_clear_23 (fun H locs hW => ?_)
        replace hW : xt_W D A ss.heap (xM am cI cL S K 0 iz dz tp bt wv ro wa ch al fr) H locs := hW
        refine lv_aload_n C.1 C.2.1 dX1_clear_26 rfl (lv_at hl 1 rfl) ?_
        refine xt_iconst C 0 dX1_clear_27 (by decide +kernel) ?_
        refine xt_put (ty := .boolean) xt_inX1 tyX1 tyX1_ok nmX1 C hW 0 rfl rfl 6 (by decide) rfl flX1_isDrawn rfl (by decide +kernel) rfl rfl (Nat.le_of_ble_eq_true rfl) dX1_clear_28 (fun H locs hW => ?_)
        replace hW : xt_W D A ss.heap (xM am cI cL S K 0 0 dz tp bt wv ro wa ch al fr) H locs := hW
        exact xt_vret C hE wv hW (fun j hj => hv j (by omega)) dX1_clear_31
      · refine lv_aload_n C.1 C.2.1 dX1_clear_8 rfl (lv_at hl 1 rfl) ?_
        refine xt_get xt_inX1 C hW 0 rfl rfl 2 (by decide) rfl flX1_weights rfl dX1_clear_9 ?_
        refine lv_iload_n C.1 C.2.1 dX1_clear_12 rfl (lv_at hl 0 rfl) ?_
        refine xt_iconst C 1 dX1_clear_13 (by decide +kernel) ?_
        refine xt_iast C hW 1 rfl (by decide) dX1_clear_14 (by omega) (fun H locs hW => ?_)
        replace hW : xt_W D A ss.heap (xM am cI cL S K n iz dz tp bt (va_up wv i 1) ro wa ch al fr) H locs := hW
        refine lv_iinc (k := 0) C.1 C.2.1 dX1_clear_15 hl rfl xt_inc (by decide) rfl (fun ls hl => ?_)
        replace hl : lv_has ls 2 [(1, .int (nI (i + 1))), (0, .ref (am 0))] := hl
        refine lv_goto C.1 C.2.1 dX1_clear_18 (tgt := 2) (by decide) ?_
        exact ih2 _ (by omega) (i + 1) (va_up wv i 1) rfl (by omega) (mq_f1 hv) ls _ _ (lv_sub hl [0, 1] rfl) hW
  exact lp2 _ 0 w rfl (Nat.zero_le _) (fun j h => absurd h (Nat.not_lt_zero j)) ls _ _ (lv_sub hl [0, 1] rfl) hW
set_option maxHeartbeats 4000000 in
set_option maxRecDepth 100000 in
theorem cm_size_y (l : Launch) (D : va_G) (cI cL : ClassId) (am : Nat → Nat) (S K n iz dz tp bt : Nat) (w ro wa ch al fr : Nat → Nat) (a : Nat) (b : Nat) (ha1 : 1 ≤ a) (ha3 : a ≤ 3) (hb1 : 1 ≤ b) (hb4 : b ≤ 4) : xt_M l yX1_size cX1_size 3 (some .boolean) 1 D cI cL [.ref (am 0), .int (nI a), .int (nI b)] (xM am cI cL S K n iz dz tp bt w ro wa ch al fr) (xt_Qi D cI cL (xM am cI cL S K n iz dz tp bt w ro wa ch al fr) (fun (r : Int32) (u : (Nat → Nat)) => r = nI 1 ∧ ∀ j, j < 24 → u j = 1) (fun u => xM am cI cL a b 0 0 dz tp bt u ro wa ch al fr)) := by
  refine xt_start (own := RX1) rfl (by decide) (Nat.le_of_ble_eq_true rfl) (fun pg ev ss mi args below meth cd A Q ls C hE hA hl hW => ?_)
  replace hl : lv_has ls 3 [(0, .ref (am 0)), (1, .int (nI a)), (2, .int (nI b))] := hl
  refine lv_iload_n C.1 C.2.1 dX1_size_0 rfl (lv_at hl 1 rfl) ?_
  refine xt_iconst C 1 dX1_size_1 (by decide +kernel) ?_
  refine xt_icmp_lt C (by omega) (by omega) dX1_size_2 (tgt := 20) (by decide) (fun h2 => ?_) (fun h2 => ?_)
  · exfalso
    omega
  · refine lv_iload_n C.1 C.2.1 dX1_size_5 rfl (lv_at hl 1 rfl) ?_
    refine xt_iconst C 3 dX1_size_6 (by decide +kernel) ?_
    refine xt_icmp_gt C (by omega) (by omega) dX1_size_7 (tgt := 20) (by decide) (fun h7 => ?_) (fun h7 => ?_)
    · exfalso
      omega
    · refine lv_iload_n C.1 C.2.1 dX1_size_10 rfl (lv_at hl 2 rfl) ?_
      refine xt_iconst C 1 dX1_size_11 (by decide +kernel) ?_
      refine xt_icmp_lt C (by omega) (by omega) dX1_size_12 (tgt := 20) (by decide) (fun h12 => ?_) (fun h12 => ?_)
      · exfalso
        omega
      · refine lv_iload_n C.1 C.2.1 dX1_size_15 rfl (lv_at hl 2 rfl) ?_
        refine xt_iconst C 4 dX1_size_16 (by decide +kernel) ?_
        refine xt_icmp_le C (by omega) (by omega) dX1_size_17 (tgt := 22) (by decide) (fun h17 => ?_) (fun h17 => ?_)
        · refine lv_aload_n C.1 C.2.1 dX1_size_22 rfl (lv_at hl 0 rfl) ?_
          refine lv_iload_n C.1 C.2.1 dX1_size_23 rfl (lv_at hl 1 rfl) ?_
          refine xt_put (ty := .int) xt_inX1 tyX1 tyX1_ok nmX1 C hW 0 rfl rfl 0 (by decide) rfl flX1_states rfl (by decide +kernel) rfl rfl (Nat.le_of_ble_eq_true rfl) dX1_size_24 (fun H locs hW => ?_)
          replace hW : xt_W D A ss.heap (xM am cI cL a K n iz dz tp bt w ro wa ch al fr) H locs := hW
          refine lv_aload_n C.1 C.2.1 dX1_size_27 rfl (lv_at hl 0 rfl) ?_
          refine lv_iload_n C.1 C.2.1 dX1_size_28 rfl (lv_at hl 2 rfl) ?_
          refine xt_put (ty := .int) xt_inX1 tyX1 tyX1_ok nmX1 C hW 0 rfl rfl 1 (by decide) rfl flX1_symbols rfl (by decide +kernel) rfl rfl (Nat.le_of_ble_eq_true rfl) dX1_size_29 (fun H locs hW => ?_)
          replace hW : xt_W D A ss.heap (xM am cI cL a b n iz dz tp bt w ro wa ch al fr) H locs := hW
          refine lv_aload_n C.1 C.2.1 dX1_size_32 rfl (lv_at hl 0 rfl) ?_
          refine xt_cvd hA hW (xt_runV C hW.1 hW.2.1 cwX1_X1_clear (cm_clear l D cI cL am a b n iz dz tp bt w ro wa ch al fr) rfl rfl rfl hl.1 (rest := []) rfl (Nat.le_of_ble_eq_true rfl) ⟨(Nat.le_of_ble_eq_true rfl), (Nat.le_of_ble_eq_true rfl)⟩ ⟨Nat.zero_le _, Nat.zero_le _⟩ dX1_size_33) (fun u H locs hp33 hW => ?_)
          obtain ⟨w_33, rfl⟩ : ∃ z, z = u := ⟨_, rfl⟩
          replace hW : xt_W D A ss.heap (xM am cI cL a b 0 0 dz tp bt w_33 ro wa ch al fr) H locs := hW
          replace hp33 : ∀ j, j < 24 → w_33 j = 1 := hp33
          refine xt_iconst C 1 dX1_size_36 (by decide +kernel) ?_
          exact xt_zret C hE w_33 hW (by first | exact Or.inl rfl | exact Or.inr rfl) (⟨rfl, hp33⟩) dX1_size_37
        · exfalso
          omega
set_option maxHeartbeats 4000000 in
set_option maxRecDepth 100000 in
theorem cm_size_n (l : Launch) (D : va_G) (cI cL : ClassId) (am : Nat → Nat) (S K n iz dz tp bt : Nat) (w ro wa ch al fr : Nat → Nat) (a : Int32) (b : Int32) (hno : ¬ ∃ s k, a = nI s ∧ b = nI k ∧ 1 ≤ s ∧ s ≤ 3 ∧ 1 ≤ k ∧ k ≤ 4) : xt_M l yX1_size cX1_size 3 (some .boolean) 1 D cI cL [.ref (am 0), .int a, .int b] (xM am cI cL S K n iz dz tp bt w ro wa ch al fr) (xt_Qi D cI cL (xM am cI cL S K n iz dz tp bt w ro wa ch al fr) (fun (r : Int32) (u : Unit) => r = nI 0) (fun u => xM am cI cL S K n iz dz tp bt w ro wa ch al fr)) := by
  refine xt_start (own := RX1) rfl (by decide) (Nat.le_of_ble_eq_true rfl) (fun pg ev ss mi args below meth cd A Q ls C hE hA hl hW => ?_)
  replace hl : lv_has ls 3 [(0, .ref (am 0)), (1, .int a), (2, .int b)] := hl
  refine lv_iload_n C.1 C.2.1 dX1_size_0 rfl (lv_at hl 1 rfl) ?_
  refine xt_iconst C 1 dX1_size_1 (by decide +kernel) ?_
  refine lv_icmp_lt C.1 C.2.1 dX1_size_2 (tgt := 20) (by decide) (fun h2 => ?_) (fun h2 => ?_)
  · refine xt_iconst C 0 dX1_size_20 (by decide +kernel) ?_
    exact xt_zret C hE () hW (by first | exact Or.inl rfl | exact Or.inr rfl) (rfl) dX1_size_21
  · refine lv_iload_n C.1 C.2.1 dX1_size_5 rfl (lv_at hl 1 rfl) ?_
    refine xt_iconst C 3 dX1_size_6 (by decide +kernel) ?_
    refine lv_icmp_gt C.1 C.2.1 dX1_size_7 (tgt := 20) (by decide) (fun h7 => ?_) (fun h7 => ?_)
    · refine xt_iconst C 0 dX1_size_20 (by decide +kernel) ?_
      exact xt_zret C hE () hW (by first | exact Or.inl rfl | exact Or.inr rfl) (rfl) dX1_size_21
    · refine lv_iload_n C.1 C.2.1 dX1_size_10 rfl (lv_at hl 2 rfl) ?_
      refine xt_iconst C 1 dX1_size_11 (by decide +kernel) ?_
      refine lv_icmp_lt C.1 C.2.1 dX1_size_12 (tgt := 20) (by decide) (fun h12 => ?_) (fun h12 => ?_)
      · refine xt_iconst C 0 dX1_size_20 (by decide +kernel) ?_
        exact xt_zret C hE () hW (by first | exact Or.inl rfl | exact Or.inr rfl) (rfl) dX1_size_21
      · refine lv_iload_n C.1 C.2.1 dX1_size_15 rfl (lv_at hl 2 rfl) ?_
        refine xt_iconst C 4 dX1_size_16 (by decide +kernel) ?_
        refine lv_icmp_le C.1 C.2.1 dX1_size_17 (tgt := 22) (by decide) (fun h17 => ?_) (fun h17 => ?_)
        · exfalso
          exact hno (xq_sz h2 h7 h12 h17)
        · refine xt_iconst C 0 dX1_size_20 (by decide +kernel) ?_
          exact xt_zret C hE () hW (by first | exact Or.inl rfl | exact Or.inr rfl) (rfl) dX1_size_21
set_option maxHeartbeats 4000000 in
set_option maxRecDepth 100000 in
theorem cm_state (l : Launch) (D : va_G) (cI cL : ClassId) (am : Nat → Nat) (S K n iz dz tp bt : Nat) (w ro wa ch al fr : Nat → Nat) (q : Int32) (hS3 : S ≤ 3) : xt_M l yX1_state cX1_state 2 (some .boolean) 0 D cI cL [.ref (am 0), .int q] (xM am cI cL S K n iz dz tp bt w ro wa ch al fr) (xt_Qi D cI cL (xM am cI cL S K n iz dz tp bt w ro wa ch al fr) (fun (r : Int32) (u : Unit) => (r = nI 1 ∧ ∃ z1, z1 < S ∧ q = nI z1) ∨ (r = nI 0 ∧ ¬ ∃ z1, z1 < S ∧ q = nI z1)) (fun u => xM am cI cL S K n iz dz tp bt w ro wa ch al fr)) := by
  refine xt_start (own := RX1) rfl (by decide) (Nat.le_of_ble_eq_true rfl) (fun pg ev ss mi args below meth cd A Q ls C hE hA hl hW => ?_)
  replace hl : lv_has ls 2 [(0, .ref (am 0)), (1, .int q)] := hl
  refine lv_iload_n C.1 C.2.1 dX1_state_0 rfl (lv_at hl 1 rfl) ?_
  refine lv_if_lt C.1 C.2.1 dX1_state_1 (tgt := 16) (by decide) (fun h1 => ?_) (fun h1 => ?_)
  · refine xt_iconst C 0 dX1_state_16 (by decide +kernel) ?_
    exact xt_zret C hE () hW (by first | exact Or.inl rfl | exact Or.inr rfl) (by first | exact Or.inr ⟨rfl, xq_no1 (by omega) h1⟩ | exact Or.inr ⟨rfl, xq_no2 (by omega) h9⟩ | exact Or.inl ⟨rfl, xq_yes (by omega) h1 h9⟩) dX1_state_17
  · refine lv_iload_n C.1 C.2.1 dX1_state_4 rfl (lv_at hl 1 rfl) ?_
    refine lv_aload_n C.1 C.2.1 dX1_state_5 rfl (lv_at hl 0 rfl) ?_
    refine xt_get xt_inX1 C hW 0 rfl rfl 0 (by decide) rfl flX1_states rfl dX1_state_6 ?_
    refine lv_icmp_ge C.1 C.2.1 dX1_state_9 (tgt := 16) (by decide) (fun h9 => ?_) (fun h9 => ?_)
    · refine xt_iconst C 0 dX1_state_16 (by decide +kernel) ?_
      exact xt_zret C hE () hW (by first | exact Or.inl rfl | exact Or.inr rfl) (by first | exact Or.inr ⟨rfl, xq_no1 (by omega) h1⟩ | exact Or.inr ⟨rfl, xq_no2 (by omega) h9⟩ | exact Or.inl ⟨rfl, xq_yes (by omega) h1 h9⟩) dX1_state_17
    · refine xt_iconst C 1 dX1_state_12 (by decide +kernel) ?_
      refine lv_goto C.1 C.2.1 dX1_state_13 (tgt := 17) (by decide) ?_
      exact xt_zret C hE () hW (by first | exact Or.inl rfl | exact Or.inr rfl) (by first | exact Or.inr ⟨rfl, xq_no1 (by omega) h1⟩ | exact Or.inr ⟨rfl, xq_no2 (by omega) h9⟩ | exact Or.inl ⟨rfl, xq_yes (by omega) h1 h9⟩) dX1_state_17
set_option maxHeartbeats 4000000 in
set_option maxRecDepth 100000 in
theorem cm_isSymbol (l : Launch) (D : va_G) (cI cL : ClassId) (am : Nat → Nat) (S K n iz dz tp bt : Nat) (w ro wa ch al fr : Nat → Nat) (q : Int32) (hK4 : K ≤ 4) : xt_M l yX1_isSymbol cX1_isSymbol 2 (some .boolean) 0 D cI cL [.ref (am 0), .int q] (xM am cI cL S K n iz dz tp bt w ro wa ch al fr) (xt_Qi D cI cL (xM am cI cL S K n iz dz tp bt w ro wa ch al fr) (fun (r : Int32) (u : Unit) => (r = nI 1 ∧ ∃ z1, z1 < K ∧ q = nI z1) ∨ (r = nI 0 ∧ ¬ ∃ z1, z1 < K ∧ q = nI z1)) (fun u => xM am cI cL S K n iz dz tp bt w ro wa ch al fr)) := by
  refine xt_start (own := RX1) rfl (by decide) (Nat.le_of_ble_eq_true rfl) (fun pg ev ss mi args below meth cd A Q ls C hE hA hl hW => ?_)
  replace hl : lv_has ls 2 [(0, .ref (am 0)), (1, .int q)] := hl
  refine lv_iload_n C.1 C.2.1 dX1_isSymbol_0 rfl (lv_at hl 1 rfl) ?_
  refine lv_if_lt C.1 C.2.1 dX1_isSymbol_1 (tgt := 16) (by decide) (fun h1 => ?_) (fun h1 => ?_)
  · refine xt_iconst C 0 dX1_isSymbol_16 (by decide +kernel) ?_
    exact xt_zret C hE () hW (by first | exact Or.inl rfl | exact Or.inr rfl) (by first | exact Or.inr ⟨rfl, xq_no1 (by omega) h1⟩ | exact Or.inr ⟨rfl, xq_no2 (by omega) h9⟩ | exact Or.inl ⟨rfl, xq_yes (by omega) h1 h9⟩) dX1_isSymbol_17
  · refine lv_iload_n C.1 C.2.1 dX1_isSymbol_4 rfl (lv_at hl 1 rfl) ?_
    refine lv_aload_n C.1 C.2.1 dX1_isSymbol_5 rfl (lv_at hl 0 rfl) ?_
    refine xt_get xt_inX1 C hW 0 rfl rfl 1 (by decide) rfl flX1_symbols rfl dX1_isSymbol_6 ?_
    refine lv_icmp_ge C.1 C.2.1 dX1_isSymbol_9 (tgt := 16) (by decide) (fun h9 => ?_) (fun h9 => ?_)
    · refine xt_iconst C 0 dX1_isSymbol_16 (by decide +kernel) ?_
      exact xt_zret C hE () hW (by first | exact Or.inl rfl | exact Or.inr rfl) (by first | exact Or.inr ⟨rfl, xq_no1 (by omega) h1⟩ | exact Or.inr ⟨rfl, xq_no2 (by omega) h9⟩ | exact Or.inl ⟨rfl, xq_yes (by omega) h1 h9⟩) dX1_isSymbol_17
    · refine xt_iconst C 1 dX1_isSymbol_12 (by decide +kernel) ?_
      refine lv_goto C.1 C.2.1 dX1_isSymbol_13 (tgt := 17) (by decide) ?_
      exact xt_zret C hE () hW (by first | exact Or.inl rfl | exact Or.inr rfl) (by first | exact Or.inr ⟨rfl, xq_no1 (by omega) h1⟩ | exact Or.inr ⟨rfl, xq_no2 (by omega) h9⟩ | exact Or.inl ⟨rfl, xq_yes (by omega) h1 h9⟩) dX1_isSymbol_17
set_option maxHeartbeats 4000000 in
set_option maxRecDepth 100000 in
theorem cm_slot_y (l : Launch) (D : va_G) (cI cL : ClassId) (am : Nat → Nat) (S K n iz dz tp bt : Nat) (w ro wa ch al fr : Nat → Nat) (ka : Nat) (kb : Nat) (kc : Nat) (hS3 : S ≤ 3) (hK4 : K ≤ 4) (hk : xq_kr S K ka kb kc) : xt_M l yX1_slot cX1_slot 4 (some .int) 1 D cI cL [.ref (am 0), .int (nI ka), .int (nI kb), .int (nI kc)] (xM am cI cL S K n iz dz tp bt w ro wa ch al fr) (xt_Qi D cI cL (xM am cI cL S K n iz dz tp bt w ro wa ch al fr) (fun (r : Int32) (u : Unit) => r = nI (mq_sl ka kb kc)) (fun u => xM am cI cL S K n iz dz tp bt w ro wa ch al fr)) := by
  refine xt_start (own := RX1) rfl (by decide) (Nat.le_of_ble_eq_true rfl) (fun pg ev ss mi args below meth cd A Q ls C hE hA hl hW => ?_)
  replace hl : lv_has ls 4 [(0, .ref (am 0)), (1, .int (nI ka)), (2, .int (nI kb)), (3, .int (nI kc))] := hl
  rcases hk with ⟨rfl, rfl, hk2⟩ | ⟨rfl, hk1, hk2⟩ | ⟨rfl, hk1, hk2⟩
  · replace hl : lv_has ls 4 [(0, .ref (am 0)), (1, .int (nI 0)), (2, .int (nI 0)), (3, .int (nI kc))] := hl
    refine lv_iload_n C.1 C.2.1 dX1_slot_0 rfl (lv_at hl 1 rfl) ?_
    refine xt_if_ne C (by omega) dX1_slot_1 (tgt := 22) (by decide) (fun h1 => ?_) (fun h1 => ?_)
    · exfalso
      omega
    · refine lv_iload_n C.1 C.2.1 dX1_slot_4 rfl (lv_at hl 2 rfl) ?_
      refine xt_if_ne C (by omega) dX1_slot_5 (tgt := 20) (by decide) (fun h5 => ?_) (fun h5 => ?_)
      · exfalso
        omega
      · refine lv_aload_n C.1 C.2.1 dX1_slot_8 rfl (lv_at hl 0 rfl) ?_
        refine lv_iload_n C.1 C.2.1 dX1_slot_9 rfl (lv_at hl 3 rfl) ?_
        refine xt_ci hA hW (xt_runV C hW.1 hW.2.1 cwX1_X1_state (cm_state l D cI cL am S K n iz dz tp bt w ro wa ch al fr (nI kc) (by omega)) rfl rfl rfl hl.1 (rest := []) rfl (Nat.le_of_ble_eq_true rfl) ⟨(Nat.le_of_ble_eq_true rfl), (Nat.le_of_ble_eq_true rfl)⟩ ⟨Nat.zero_le _, Nat.zero_le _⟩ dX1_slot_10) (fun r10 u H locs hp10 hW => ?_)
        replace hW : xt_W D A ss.heap (xM am cI cL S K n iz dz tp bt w ro wa ch al fr) H locs := hW
        replace hp10 : (r10 = nI 1 ∧ ∃ z1, z1 < S ∧ (nI kc) = nI z1) ∨ (r10 = nI 0 ∧ ¬ ∃ z1, z1 < S ∧ (nI kc) = nI z1) := hp10
        rcases hp10 with ⟨rfl, -⟩ | ⟨-, hno⟩
        · replace hl : lv_has ls 4 [(0, .ref (am 0)), (1, .int (nI 0)), (2, .int (nI 0)), (3, .int (nI kc))] := hl
          refine xt_if_eq C (by omega) dX1_slot_13 (tgt := 20) (by decide) (fun h13 => ?_) (fun h13 => ?_)
          · exfalso
            omega
          · refine lv_iload_n C.1 C.2.1 dX1_slot_16 rfl (lv_at hl 3 rfl) ?_
            refine lv_goto C.1 C.2.1 dX1_slot_17 (tgt := 21) (by decide) ?_
            exact xt_iret C hE () hW (rfl) dX1_slot_21
        · exact absurd (⟨kc, by omega, rfl⟩) hno
  · replace hl : lv_has ls 4 [(0, .ref (am 0)), (1, .int (nI 1)), (2, .int (nI kb)), (3, .int (nI kc))] := hl
    refine lv_iload_n C.1 C.2.1 dX1_slot_0 rfl (lv_at hl 1 rfl) ?_
    refine xt_if_ne C (by omega) dX1_slot_1 (tgt := 22) (by decide) (fun h1 => ?_) (fun h1 => ?_)
    · refine lv_aload_n C.1 C.2.1 dX1_slot_22 rfl (lv_at hl 0 rfl) ?_
      refine lv_iload_n C.1 C.2.1 dX1_slot_23 rfl (lv_at hl 2 rfl) ?_
      refine xt_ci hA hW (xt_runV C hW.1 hW.2.1 cwX1_X1_state (cm_state l D cI cL am S K n iz dz tp bt w ro wa ch al fr (nI kb) (by omega)) rfl rfl rfl hl.1 (rest := []) rfl (Nat.le_of_ble_eq_true rfl) ⟨(Nat.le_of_ble_eq_true rfl), (Nat.le_of_ble_eq_true rfl)⟩ ⟨Nat.zero_le _, Nat.zero_le _⟩ dX1_slot_24) (fun r24 u H locs hp24 hW => ?_)
      replace hW : xt_W D A ss.heap (xM am cI cL S K n iz dz tp bt w ro wa ch al fr) H locs := hW
      replace hp24 : (r24 = nI 1 ∧ ∃ z1, z1 < S ∧ (nI kb) = nI z1) ∨ (r24 = nI 0 ∧ ¬ ∃ z1, z1 < S ∧ (nI kb) = nI z1) := hp24
      rcases hp24 with ⟨rfl, -⟩ | ⟨-, hno⟩
      · replace hl : lv_has ls 4 [(0, .ref (am 0)), (1, .int (nI 1)), (2, .int (nI kb)), (3, .int (nI kc))] := hl
        refine xt_if_ne C (by omega) dX1_slot_27 (tgt := 32) (by decide) (fun h27 => ?_) (fun h27 => ?_)
        · refine lv_iload_n C.1 C.2.1 dX1_slot_32 rfl (lv_at hl 1 rfl) ?_
          refine xt_iconst C 1 dX1_slot_33 (by decide +kernel) ?_
          refine xt_icmp_ne C (by omega) (by omega) dX1_slot_34 (tgt := 57) (by decide) (fun h34 => ?_) (fun h34 => ?_)
          · exfalso
            omega
          · refine lv_aload_n C.1 C.2.1 dX1_slot_37 rfl (lv_at hl 0 rfl) ?_
            refine lv_iload_n C.1 C.2.1 dX1_slot_38 rfl (lv_at hl 3 rfl) ?_
            refine xt_ci hA hW (xt_runV C hW.1 hW.2.1 cwX1_X1_state (cm_state l D cI cL am S K n iz dz tp bt w ro wa ch al fr (nI kc) (by omega)) rfl rfl rfl hl.1 (rest := []) rfl (Nat.le_of_ble_eq_true rfl) ⟨(Nat.le_of_ble_eq_true rfl), (Nat.le_of_ble_eq_true rfl)⟩ ⟨Nat.zero_le _, Nat.zero_le _⟩ dX1_slot_39) (fun r39 u H locs hp39 hW => ?_)
            replace hW : xt_W D A ss.heap (xM am cI cL S K n iz dz tp bt w ro wa ch al fr) H locs := hW
            replace hp39 : (r39 = nI 1 ∧ ∃ z1, z1 < S ∧ (nI kc) = nI z1) ∨ (r39 = nI 0 ∧ ¬ ∃ z1, z1 < S ∧ (nI kc) = nI z1) := hp39
            rcases hp39 with ⟨rfl, -⟩ | ⟨-, hno⟩
            · replace hl : lv_has ls 4 [(0, .ref (am 0)), (1, .int (nI 1)), (2, .int (nI kb)), (3, .int (nI kc))] := hl
              refine xt_if_eq C (by omega) dX1_slot_42 (tgt := 55) (by decide) (fun h42 => ?_) (fun h42 => ?_)
              · exfalso
                omega
              · refine xt_iconst C 3 dX1_slot_45 (by decide +kernel) ?_
                refine xt_iconst C 3 dX1_slot_46 (by decide +kernel) ?_
                refine lv_iload_n C.1 C.2.1 dX1_slot_47 rfl (lv_at hl 2 rfl) ?_
                refine xt_imul C dX1_slot_48 ?_
                refine xt_iadd C dX1_slot_49 ?_
                refine lv_iload_n C.1 C.2.1 dX1_slot_50 rfl (lv_at hl 3 rfl) ?_
                refine xt_iadd C dX1_slot_51 ?_
                refine lv_goto C.1 C.2.1 dX1_slot_52 (tgt := 56) (by decide) ?_
                exact xt_iret C hE () hW (rfl) dX1_slot_56
            · exact absurd (⟨kc, by omega, rfl⟩) hno
        · exfalso
          omega
      · exact absurd (⟨kb, by omega, rfl⟩) hno
    · exfalso
      omega
  · replace hl : lv_has ls 4 [(0, .ref (am 0)), (1, .int (nI 2)), (2, .int (nI kb)), (3, .int (nI kc))] := hl
    refine lv_iload_n C.1 C.2.1 dX1_slot_0 rfl (lv_at hl 1 rfl) ?_
    refine xt_if_ne C (by omega) dX1_slot_1 (tgt := 22) (by decide) (fun h1 => ?_) (fun h1 => ?_)
    · refine lv_aload_n C.1 C.2.1 dX1_slot_22 rfl (lv_at hl 0 rfl) ?_
      refine lv_iload_n C.1 C.2.1 dX1_slot_23 rfl (lv_at hl 2 rfl) ?_
      refine xt_ci hA hW (xt_runV C hW.1 hW.2.1 cwX1_X1_state (cm_state l D cI cL am S K n iz dz tp bt w ro wa ch al fr (nI kb) (by omega)) rfl rfl rfl hl.1 (rest := []) rfl (Nat.le_of_ble_eq_true rfl) ⟨(Nat.le_of_ble_eq_true rfl), (Nat.le_of_ble_eq_true rfl)⟩ ⟨Nat.zero_le _, Nat.zero_le _⟩ dX1_slot_24) (fun r24 u H locs hp24 hW => ?_)
      replace hW : xt_W D A ss.heap (xM am cI cL S K n iz dz tp bt w ro wa ch al fr) H locs := hW
      replace hp24 : (r24 = nI 1 ∧ ∃ z1, z1 < S ∧ (nI kb) = nI z1) ∨ (r24 = nI 0 ∧ ¬ ∃ z1, z1 < S ∧ (nI kb) = nI z1) := hp24
      rcases hp24 with ⟨rfl, -⟩ | ⟨-, hno⟩
      · replace hl : lv_has ls 4 [(0, .ref (am 0)), (1, .int (nI 2)), (2, .int (nI kb)), (3, .int (nI kc))] := hl
        refine xt_if_ne C (by omega) dX1_slot_27 (tgt := 32) (by decide) (fun h27 => ?_) (fun h27 => ?_)
        · refine lv_iload_n C.1 C.2.1 dX1_slot_32 rfl (lv_at hl 1 rfl) ?_
          refine xt_iconst C 1 dX1_slot_33 (by decide +kernel) ?_
          refine xt_icmp_ne C (by omega) (by omega) dX1_slot_34 (tgt := 57) (by decide) (fun h34 => ?_) (fun h34 => ?_)
          · refine lv_iload_n C.1 C.2.1 dX1_slot_57 rfl (lv_at hl 1 rfl) ?_
            refine xt_iconst C 2 dX1_slot_58 (by decide +kernel) ?_
            refine xt_icmp_ne C (by omega) (by omega) dX1_slot_59 (tgt := 81) (by decide) (fun h59 => ?_) (fun h59 => ?_)
            · exfalso
              omega
            · refine lv_aload_n C.1 C.2.1 dX1_slot_62 rfl (lv_at hl 0 rfl) ?_
              refine lv_iload_n C.1 C.2.1 dX1_slot_63 rfl (lv_at hl 3 rfl) ?_
              refine xt_ci hA hW (xt_runV C hW.1 hW.2.1 cwX1_X1_isSymbol (cm_isSymbol l D cI cL am S K n iz dz tp bt w ro wa ch al fr (nI kc) (by omega)) rfl rfl rfl hl.1 (rest := []) rfl (Nat.le_of_ble_eq_true rfl) ⟨(Nat.le_of_ble_eq_true rfl), (Nat.le_of_ble_eq_true rfl)⟩ ⟨Nat.zero_le _, Nat.zero_le _⟩ dX1_slot_64) (fun r64 u H locs hp64 hW => ?_)
              replace hW : xt_W D A ss.heap (xM am cI cL S K n iz dz tp bt w ro wa ch al fr) H locs := hW
              replace hp64 : (r64 = nI 1 ∧ ∃ z1, z1 < K ∧ (nI kc) = nI z1) ∨ (r64 = nI 0 ∧ ¬ ∃ z1, z1 < K ∧ (nI kc) = nI z1) := hp64
              rcases hp64 with ⟨rfl, -⟩ | ⟨-, hno⟩
              · replace hl : lv_has ls 4 [(0, .ref (am 0)), (1, .int (nI 2)), (2, .int (nI kb)), (3, .int (nI kc))] := hl
                refine xt_if_eq C (by omega) dX1_slot_67 (tgt := 81) (by decide) (fun h67 => ?_) (fun h67 => ?_)
                · exfalso
                  omega
                · refine xt_bipush C 12 dX1_slot_70 (by decide +kernel) ?_
                  refine xt_iconst C 4 dX1_slot_72 (by decide +kernel) ?_
                  refine lv_iload_n C.1 C.2.1 dX1_slot_73 rfl (lv_at hl 2 rfl) ?_
                  refine xt_imul C dX1_slot_74 ?_
                  refine xt_iadd C dX1_slot_75 ?_
                  refine lv_iload_n C.1 C.2.1 dX1_slot_76 rfl (lv_at hl 3 rfl) ?_
                  refine xt_iadd C dX1_slot_77 ?_
                  refine lv_goto C.1 C.2.1 dX1_slot_78 (tgt := 82) (by decide) ?_
                  exact xt_iret C hE () hW (rfl) dX1_slot_82
              · exact absurd (⟨kc, by omega, rfl⟩) hno
          · exfalso
            omega
        · exfalso
          omega
      · exact absurd (⟨kb, by omega, rfl⟩) hno
    · exfalso
      omega
set_option maxHeartbeats 4000000 in
set_option maxRecDepth 100000 in
theorem cm_slot_n (l : Launch) (D : va_G) (cI cL : ClassId) (am : Nat → Nat) (S K n iz dz tp bt : Nat) (w ro wa ch al fr : Nat → Nat) (kd : Int32) (ro2 : Int32) (co : Int32) (hS3 : S ≤ 3) (hK4 : K ≤ 4) (hno : ¬ ∃ a b c, xt_ok S K kd ro2 co a b c) : xt_M l yX1_slot cX1_slot 4 (some .int) 1 D cI cL [.ref (am 0), .int kd, .int ro2, .int co] (xM am cI cL S K n iz dz tp bt w ro wa ch al fr) (xt_Qi D cI cL (xM am cI cL S K n iz dz tp bt w ro wa ch al fr) (fun (r : Int32) (u : Unit) => r =  (-1)) (fun u => xM am cI cL S K n iz dz tp bt w ro wa ch al fr)) := by
  refine xt_start (own := RX1) rfl (by decide) (Nat.le_of_ble_eq_true rfl) (fun pg ev ss mi args below meth cd A Q ls C hE hA hl hW => ?_)
  replace hl : lv_has ls 4 [(0, .ref (am 0)), (1, .int kd), (2, .int ro2), (3, .int co)] := hl
  refine lv_iload_n C.1 C.2.1 dX1_slot_0 rfl (lv_at hl 1 rfl) ?_
  refine lv_if_ne C.1 C.2.1 dX1_slot_1 (tgt := 22) (by decide) (fun h1 => ?_) (fun h1 => ?_)
  · refine lv_aload_n C.1 C.2.1 dX1_slot_22 rfl (lv_at hl 0 rfl) ?_
    refine lv_iload_n C.1 C.2.1 dX1_slot_23 rfl (lv_at hl 2 rfl) ?_
    refine xt_ci hA hW (xt_runV C hW.1 hW.2.1 cwX1_X1_state (cm_state l D cI cL am S K n iz dz tp bt w ro wa ch al fr ro2 (by omega)) rfl rfl rfl hl.1 (rest := []) rfl (Nat.le_of_ble_eq_true rfl) ⟨(Nat.le_of_ble_eq_true rfl), (Nat.le_of_ble_eq_true rfl)⟩ ⟨Nat.zero_le _, Nat.zero_le _⟩ dX1_slot_24) (fun r24 u H locs hp24 hW => ?_)
    replace hW : xt_W D A ss.heap (xM am cI cL S K n iz dz tp bt w ro wa ch al fr) H locs := hW
    replace hp24 : (r24 = nI 1 ∧ ∃ z1, z1 < S ∧ ro2 = nI z1) ∨ (r24 = nI 0 ∧ ¬ ∃ z1, z1 < S ∧ ro2 = nI z1) := hp24
    rcases hp24 with ⟨rfl, j, hj, hje⟩ | ⟨rfl, -⟩
    · replace hl : lv_has ls 4 [(0, .ref (am 0)), (1, .int kd), (2, .int ro2), (3, .int co)] := hl
      refine xt_if_ne C (by omega) dX1_slot_27 (tgt := 32) (by decide) (fun h27 => ?_) (fun h27 => ?_)
      · refine lv_iload_n C.1 C.2.1 dX1_slot_32 rfl (lv_at hl 1 rfl) ?_
        refine xt_iconst C 1 dX1_slot_33 (by decide +kernel) ?_
        refine lv_icmp_ne C.1 C.2.1 dX1_slot_34 (tgt := 57) (by decide) (fun h34 => ?_) (fun h34 => ?_)
        · refine lv_iload_n C.1 C.2.1 dX1_slot_57 rfl (lv_at hl 1 rfl) ?_
          refine xt_iconst C 2 dX1_slot_58 (by decide +kernel) ?_
          refine lv_icmp_ne C.1 C.2.1 dX1_slot_59 (tgt := 81) (by decide) (fun h59 => ?_) (fun h59 => ?_)
          · refine lv_iconst (v := -1) C.1 C.2.1 dX1_slot_81 (by decide +kernel) ?_
            exact xt_iret C hE () hW (rfl) dX1_slot_82
          · refine lv_aload_n C.1 C.2.1 dX1_slot_62 rfl (lv_at hl 0 rfl) ?_
            refine lv_iload_n C.1 C.2.1 dX1_slot_63 rfl (lv_at hl 3 rfl) ?_
            refine xt_ci hA hW (xt_runV C hW.1 hW.2.1 cwX1_X1_isSymbol (cm_isSymbol l D cI cL am S K n iz dz tp bt w ro wa ch al fr co (by omega)) rfl rfl rfl hl.1 (rest := []) rfl (Nat.le_of_ble_eq_true rfl) ⟨(Nat.le_of_ble_eq_true rfl), (Nat.le_of_ble_eq_true rfl)⟩ ⟨Nat.zero_le _, Nat.zero_le _⟩ dX1_slot_64) (fun r64 u H locs hp64 hW => ?_)
            replace hW : xt_W D A ss.heap (xM am cI cL S K n iz dz tp bt w ro wa ch al fr) H locs := hW
            replace hp64 : (r64 = nI 1 ∧ ∃ z1, z1 < K ∧ co = nI z1) ∨ (r64 = nI 0 ∧ ¬ ∃ z1, z1 < K ∧ co = nI z1) := hp64
            rcases hp64 with ⟨-, j2, hj2, rfl⟩ | ⟨rfl, -⟩
            · exact absurd ⟨2, j, j2, h59, hje, rfl, Or.inr (Or.inr ⟨rfl, hj, hj2⟩)⟩ hno
            · replace hl : lv_has ls 4 [(0, .ref (am 0)), (1, .int kd), (2, .int ro2), (3, .int co)] := hl
              refine xt_if_eq C (by omega) dX1_slot_67 (tgt := 81) (by decide) (fun h67 => ?_) (fun h67 => ?_)
              · refine lv_iconst (v := -1) C.1 C.2.1 dX1_slot_81 (by decide +kernel) ?_
                exact xt_iret C hE () hW (rfl) dX1_slot_82
              · exfalso
                omega
        · refine lv_aload_n C.1 C.2.1 dX1_slot_37 rfl (lv_at hl 0 rfl) ?_
          refine lv_iload_n C.1 C.2.1 dX1_slot_38 rfl (lv_at hl 3 rfl) ?_
          refine xt_ci hA hW (xt_runV C hW.1 hW.2.1 cwX1_X1_state (cm_state l D cI cL am S K n iz dz tp bt w ro wa ch al fr co (by omega)) rfl rfl rfl hl.1 (rest := []) rfl (Nat.le_of_ble_eq_true rfl) ⟨(Nat.le_of_ble_eq_true rfl), (Nat.le_of_ble_eq_true rfl)⟩ ⟨Nat.zero_le _, Nat.zero_le _⟩ dX1_slot_39) (fun r39 u H locs hp39 hW => ?_)
          replace hW : xt_W D A ss.heap (xM am cI cL S K n iz dz tp bt w ro wa ch al fr) H locs := hW
          replace hp39 : (r39 = nI 1 ∧ ∃ z1, z1 < S ∧ co = nI z1) ∨ (r39 = nI 0 ∧ ¬ ∃ z1, z1 < S ∧ co = nI z1) := hp39
          rcases hp39 with ⟨-, j2, hj2, rfl⟩ | ⟨rfl, -⟩
          · exact absurd ⟨1, j, j2, h34, hje, rfl, Or.inr (Or.inl ⟨rfl, hj, hj2⟩)⟩ hno
          · replace hl : lv_has ls 4 [(0, .ref (am 0)), (1, .int kd), (2, .int ro2), (3, .int co)] := hl
            refine xt_if_eq C (by omega) dX1_slot_42 (tgt := 55) (by decide) (fun h42 => ?_) (fun h42 => ?_)
            · refine lv_iconst (v := -1) C.1 C.2.1 dX1_slot_55 (by decide +kernel) ?_
              exact xt_iret C hE () hW (rfl) dX1_slot_56
            · exfalso
              omega
      · exfalso
        omega
    · replace hl : lv_has ls 4 [(0, .ref (am 0)), (1, .int kd), (2, .int ro2), (3, .int co)] := hl
      refine xt_if_ne C (by omega) dX1_slot_27 (tgt := 32) (by decide) (fun h27 => ?_) (fun h27 => ?_)
      · exfalso
        omega
      · refine lv_iconst (v := -1) C.1 C.2.1 dX1_slot_30 (by decide +kernel) ?_
        exact xt_iret C hE () hW (rfl) dX1_slot_31
  · refine lv_iload_n C.1 C.2.1 dX1_slot_4 rfl (lv_at hl 2 rfl) ?_
    refine lv_if_ne C.1 C.2.1 dX1_slot_5 (tgt := 20) (by decide) (fun h5 => ?_) (fun h5 => ?_)
    · refine lv_iconst (v := -1) C.1 C.2.1 dX1_slot_20 (by decide +kernel) ?_
      exact xt_iret C hE () hW (rfl) dX1_slot_21
    · refine lv_aload_n C.1 C.2.1 dX1_slot_8 rfl (lv_at hl 0 rfl) ?_
      refine lv_iload_n C.1 C.2.1 dX1_slot_9 rfl (lv_at hl 3 rfl) ?_
      refine xt_ci hA hW (xt_runV C hW.1 hW.2.1 cwX1_X1_state (cm_state l D cI cL am S K n iz dz tp bt w ro wa ch al fr co (by omega)) rfl rfl rfl hl.1 (rest := []) rfl (Nat.le_of_ble_eq_true rfl) ⟨(Nat.le_of_ble_eq_true rfl), (Nat.le_of_ble_eq_true rfl)⟩ ⟨Nat.zero_le _, Nat.zero_le _⟩ dX1_slot_10) (fun r10 u H locs hp10 hW => ?_)
      replace hW : xt_W D A ss.heap (xM am cI cL S K n iz dz tp bt w ro wa ch al fr) H locs := hW
      replace hp10 : (r10 = nI 1 ∧ ∃ z1, z1 < S ∧ co = nI z1) ∨ (r10 = nI 0 ∧ ¬ ∃ z1, z1 < S ∧ co = nI z1) := hp10
      rcases hp10 with ⟨-, j, hj, rfl⟩ | ⟨rfl, -⟩
      · exact absurd ⟨0, 0, j, (by rw [nI_0]; exact h1), (by rw [nI_0]; exact h5), rfl, Or.inl ⟨rfl, rfl, hj⟩⟩ hno
      · replace hl : lv_has ls 4 [(0, .ref (am 0)), (1, .int kd), (2, .int ro2), (3, .int co)] := hl
        refine xt_if_eq C (by omega) dX1_slot_13 (tgt := 20) (by decide) (fun h13 => ?_) (fun h13 => ?_)
        · refine lv_iconst (v := -1) C.1 C.2.1 dX1_slot_20 (by decide +kernel) ?_
          exact xt_iret C hE () hW (rfl) dX1_slot_21
        · exfalso
          omega
set_option maxHeartbeats 4000000 in
set_option maxRecDepth 100000 in
theorem cm_weigh_y (l : Launch) (D : va_G) (cI cL : ClassId) (am : Nat → Nat) (S K n iz dz tp bt : Nat) (w ro wa ch al fr : Nat → Nat) (ka : Nat) (kb : Nat) (kc : Nat) (v : Nat) (hV : mq_V S K n w ro) (hk : xq_kr S K ka kb kc) (hv9 : v ≤ 9) : xt_M l yX1_weigh cX1_weigh 6 (some .boolean) 2 D cI cL [.ref (am 0), .int (nI ka), .int (nI kb), .int (nI kc), .int (nI v)] (xM am cI cL S K n iz dz tp bt w ro wa ch al fr) (xt_Qi D cI cL (xM am cI cL S K n iz dz tp bt w ro wa ch al fr) (fun (r : Int32) (u : Unit) => r = nI 1) (fun u => xM am cI cL S K n iz dz tp bt (va_up w (mq_sl ka kb kc) v) ro wa ch al fr)) := by
  obtain ⟨hS0, hS3, hK0, hK4, hn6, hw, hsK⟩ := hV
  have hsy : ∀ p, p < n → ro p < 4 := fun p h => Nat.lt_of_lt_of_le (hsK p h) hK4
  have hku := hk; unfold xq_kr at hku
  have hslb := mq_slb hS3 hK4 hk
  refine xt_start (own := RX1) rfl (by decide) (Nat.le_of_ble_eq_true rfl) (fun pg ev ss mi args below meth cd A Q ls C hE hA hl hW => ?_)
  replace hl : lv_has ls 6 [(0, .ref (am 0)), (1, .int (nI ka)), (2, .int (nI kb)), (3, .int (nI kc)), (4, .int (nI v))] := hl
  refine lv_aload_n C.1 C.2.1 dX1_weigh_0 rfl (lv_at hl 0 rfl) ?_
  refine lv_iload_n C.1 C.2.1 dX1_weigh_1 rfl (lv_at hl 1 rfl) ?_
  refine lv_iload_n C.1 C.2.1 dX1_weigh_2 rfl (lv_at hl 2 rfl) ?_
  refine lv_iload_n C.1 C.2.1 dX1_weigh_3 rfl (lv_at hl 3 rfl) ?_
  refine xt_ci hA hW (xt_runV C hW.1 hW.2.1 cwX1_X1_slot (cm_slot_y l D cI cL am S K n iz dz tp bt w ro wa ch al fr ka kb kc (by omega) (by omega) (hk)) rfl rfl rfl hl.1 (rest := []) rfl (Nat.le_of_ble_eq_true rfl) ⟨(Nat.le_of_ble_eq_true rfl), (Nat.le_of_ble_eq_true rfl)⟩ ⟨Nat.zero_le _, Nat.zero_le _⟩ dX1_weigh_4) (fun r4 u H locs hp4 hW => ?_)
  replace hW : xt_W D A ss.heap (xM am cI cL S K n iz dz tp bt w ro wa ch al fr) H locs := hW
  subst hp4
  refine lv_istore C.1 C.2.1 dX1_weigh_7 hl (by decide) rfl (fun ls hl => ?_)
  replace hl : lv_has ls 6 [(5, .int (nI (mq_sl ka kb kc))), (0, .ref (am 0)), (1, .int (nI ka)), (2, .int (nI kb)), (3, .int (nI kc)), (4, .int (nI v))] := hl
  refine lv_iload C.1 C.2.1 dX1_weigh_9 (lv_at hl 0 rfl) ?_
  refine xt_if_lt C (by omega) dX1_weigh_11 (tgt := 26) (by decide) ?_
  refine lv_iload C.1 C.2.1 dX1_weigh_14 (lv_at hl 5 rfl) ?_
  refine xt_if_lt C (by omega) dX1_weigh_16 (tgt := 26) (by decide) ?_
  refine lv_iload C.1 C.2.1 dX1_weigh_19 (lv_at hl 5 rfl) ?_
  refine xt_bipush C 9 dX1_weigh_21 (by decide +kernel) ?_
  refine W.eq (g2 := F0 mi 23 ls [.int (nI 9), .int (nI v)]) rfl ?_
  refine xt_icmp_le C (by omega) (by omega) dX1_weigh_23 (tgt := 28) (by decide) (fun h23 => ?_) (fun h23 => ?_)
  · refine lv_aload_n C.1 C.2.1 dX1_weigh_28 rfl (lv_at hl 1 rfl) ?_
    refine xt_get xt_inX1 C hW 0 rfl rfl 2 (by decide) rfl flX1_weights rfl dX1_weigh_29 ?_
    refine lv_iload C.1 C.2.1 dX1_weigh_32 (lv_at hl 0 rfl) ?_
    refine lv_iload C.1 C.2.1 dX1_weigh_34 (lv_at hl 5 rfl) ?_
    refine xt_iast C hW 1 rfl (by decide) dX1_weigh_36 (by omega) (fun H locs hW => ?_)
    replace hW : xt_W D A ss.heap (xM am cI cL S K n iz dz tp bt (va_up w (mq_sl ka kb kc) v) ro wa ch al fr) H locs := hW
    refine xt_iconst C 1 dX1_weigh_37 (by decide +kernel) ?_
    exact xt_zret C hE () hW (by first | exact Or.inl rfl | exact Or.inr rfl) (rfl) dX1_weigh_38
  · exfalso
    omega
set_option maxHeartbeats 4000000 in
set_option maxRecDepth 100000 in
theorem cm_weigh_n (l : Launch) (D : va_G) (cI cL : ClassId) (am : Nat → Nat) (S K n iz dz tp bt : Nat) (w ro wa ch al fr : Nat → Nat) (kd : Int32) (ro2 : Int32) (co : Int32) (x : Int32) (hV : mq_V S K n w ro) (hno : ¬ ((∃ a b c, xt_ok S K kd ro2 co a b c) ∧ ∃ v, v ≤ 9 ∧ x = nI v)) : xt_M l yX1_weigh cX1_weigh 6 (some .boolean) 2 D cI cL [.ref (am 0), .int kd, .int ro2, .int co, .int x] (xM am cI cL S K n iz dz tp bt w ro wa ch al fr) (xt_Qi D cI cL (xM am cI cL S K n iz dz tp bt w ro wa ch al fr) (fun (r : Int32) (u : Unit) => r = nI 0) (fun u => xM am cI cL S K n iz dz tp bt w ro wa ch al fr)) := by
  obtain ⟨hS0, hS3, hK0, hK4, hn6, hw, hsK⟩ := hV
  have hsy : ∀ p, p < n → ro p < 4 := fun p h => Nat.lt_of_lt_of_le (hsK p h) hK4
  refine xt_start (own := RX1) rfl (by decide) (Nat.le_of_ble_eq_true rfl) (fun pg ev ss mi args below meth cd A Q ls C hE hA hl hW => ?_)
  replace hl : lv_has ls 6 [(0, .ref (am 0)), (1, .int kd), (2, .int ro2), (3, .int co), (4, .int x)] := hl
  by_cases hyes : ∃ a b c, xt_ok S K kd ro2 co a b c
  · obtain ⟨ka, kb, kc, rfl, rfl, rfl, hk⟩ := hyes
    replace hl : lv_has ls 6 [(0, .ref (am 0)), (1, .int (nI ka)), (2, .int (nI kb)), (3, .int (nI kc)), (4, .int x)] := hl
    refine lv_aload_n C.1 C.2.1 dX1_weigh_0 rfl (lv_at hl 0 rfl) ?_
    refine lv_iload_n C.1 C.2.1 dX1_weigh_1 rfl (lv_at hl 1 rfl) ?_
    refine lv_iload_n C.1 C.2.1 dX1_weigh_2 rfl (lv_at hl 2 rfl) ?_
    refine lv_iload_n C.1 C.2.1 dX1_weigh_3 rfl (lv_at hl 3 rfl) ?_
    refine xt_ci hA hW (xt_runV C hW.1 hW.2.1 cwX1_X1_slot (cm_slot_y l D cI cL am S K n iz dz tp bt w ro wa ch al fr ka kb kc (by omega) (by omega) (hk)) rfl rfl rfl hl.1 (rest := []) rfl (Nat.le_of_ble_eq_true rfl) ⟨(Nat.le_of_ble_eq_true rfl), (Nat.le_of_ble_eq_true rfl)⟩ ⟨Nat.zero_le _, Nat.zero_le _⟩ dX1_weigh_4) (fun r4 u H locs hp4 hW => ?_)
    replace hW : xt_W D A ss.heap (xM am cI cL S K n iz dz tp bt w ro wa ch al fr) H locs := hW
    subst hp4
    refine lv_istore C.1 C.2.1 dX1_weigh_7 hl (by decide) rfl (fun ls hl => ?_)
    replace hl : lv_has ls 6 [(5, .int (nI (mq_sl ka kb kc))), (0, .ref (am 0)), (1, .int (nI ka)), (2, .int (nI kb)), (3, .int (nI kc)), (4, .int x)] := hl
    refine lv_iload C.1 C.2.1 dX1_weigh_9 (lv_at hl 0 rfl) ?_
    refine xt_if_lt C (by have := mq_slb hS3 hK4 hk; omega) dX1_weigh_11 (tgt := 26) (by decide) ?_
    refine lv_iload C.1 C.2.1 dX1_weigh_14 (lv_at hl 5 rfl) ?_
    refine lv_if_lt C.1 C.2.1 dX1_weigh_16 (tgt := 26) (by decide) (fun h16 => ?_) (fun h16 => ?_)
    · refine xt_iconst C 0 dX1_weigh_26 (by decide +kernel) ?_
      exact xt_zret C hE () hW (by first | exact Or.inl rfl | exact Or.inr rfl) (rfl) dX1_weigh_27
    · refine lv_iload C.1 C.2.1 dX1_weigh_19 (lv_at hl 5 rfl) ?_
      refine xt_bipush C 9 dX1_weigh_21 (by decide +kernel) ?_
      refine lv_icmp_le C.1 C.2.1 dX1_weigh_23 (tgt := 28) (by decide) (fun h23 => ?_) (fun h23 => ?_)
      · exfalso
        exact hno ⟨⟨ka, kb, kc, rfl, rfl, rfl, hk⟩, xq_le (by omega) h16 h23⟩
      · refine xt_iconst C 0 dX1_weigh_26 (by decide +kernel) ?_
        exact xt_zret C hE () hW (by first | exact Or.inl rfl | exact Or.inr rfl) (rfl) dX1_weigh_27
  · refine lv_aload_n C.1 C.2.1 dX1_weigh_0 rfl (lv_at hl 0 rfl) ?_
    refine lv_iload_n C.1 C.2.1 dX1_weigh_1 rfl (lv_at hl 1 rfl) ?_
    refine lv_iload_n C.1 C.2.1 dX1_weigh_2 rfl (lv_at hl 2 rfl) ?_
    refine lv_iload_n C.1 C.2.1 dX1_weigh_3 rfl (lv_at hl 3 rfl) ?_
    refine xt_ci hA hW (xt_runV C hW.1 hW.2.1 cwX1_X1_slot (cm_slot_n l D cI cL am S K n iz dz tp bt w ro wa ch al fr kd ro2 co (by omega) (by omega) (hyes)) rfl rfl rfl hl.1 (rest := []) rfl (Nat.le_of_ble_eq_true rfl) ⟨(Nat.le_of_ble_eq_true rfl), (Nat.le_of_ble_eq_true rfl)⟩ ⟨Nat.zero_le _, Nat.zero_le _⟩ dX1_weigh_4) (fun r4 u H locs hp4 hW => ?_)
    replace hW : xt_W D A ss.heap (xM am cI cL S K n iz dz tp bt w ro wa ch al fr) H locs := hW
    subst hp4
    refine lv_istore C.1 C.2.1 dX1_weigh_7 hl (by decide) rfl (fun ls hl => ?_)
    replace hl : lv_has ls 6 [(5, .int (-1)), (0, .ref (am 0)), (1, .int kd), (2, .int ro2), (3, .int co), (4, .int x)] := hl
    refine lv_iload C.1 C.2.1 dX1_weigh_9 (lv_at hl 0 rfl) ?_
    refine lv_if_lt C.1 C.2.1 dX1_weigh_11 (tgt := 26) (by decide) (fun h11 => ?_) (fun h11 => ?_)
    · refine xt_iconst C 0 dX1_weigh_26 (by decide +kernel) ?_
      exact xt_zret C hE () hW (by first | exact Or.inl rfl | exact Or.inr rfl) (rfl) dX1_weigh_27
    · exfalso
      exact h11 (by decide)
set_option maxHeartbeats 4000000 in
set_option maxRecDepth 100000 in
theorem cm_weight_y (l : Launch) (D : va_G) (cI cL : ClassId) (am : Nat → Nat) (S K n iz dz tp bt : Nat) (w ro wa ch al fr : Nat → Nat) (ka : Nat) (kb : Nat) (kc : Nat) (hV : mq_V S K n w ro) (hk : xq_kr S K ka kb kc) : xt_M l yX1_weight cX1_weight 5 (some .int) 2 D cI cL [.ref (am 0), .int (nI ka), .int (nI kb), .int (nI kc)] (xM am cI cL S K n iz dz tp bt w ro wa ch al fr) (xt_Qi D cI cL (xM am cI cL S K n iz dz tp bt w ro wa ch al fr) (fun (r : Int32) (u : Unit) => r = nI (w (mq_sl ka kb kc))) (fun u => xM am cI cL S K n iz dz tp bt w ro wa ch al fr)) := by
  obtain ⟨hS0, hS3, hK0, hK4, hn6, hw, hsK⟩ := hV
  have hsy : ∀ p, p < n → ro p < 4 := fun p h => Nat.lt_of_lt_of_le (hsK p h) hK4
  have hku := hk; unfold xq_kr at hku
  have hslb := mq_slb hS3 hK4 hk
  refine xt_start (own := RX1) rfl (by decide) (Nat.le_of_ble_eq_true rfl) (fun pg ev ss mi args below meth cd A Q ls C hE hA hl hW => ?_)
  replace hl : lv_has ls 5 [(0, .ref (am 0)), (1, .int (nI ka)), (2, .int (nI kb)), (3, .int (nI kc))] := hl
  refine lv_aload_n C.1 C.2.1 dX1_weight_0 rfl (lv_at hl 0 rfl) ?_
  refine lv_iload_n C.1 C.2.1 dX1_weight_1 rfl (lv_at hl 1 rfl) ?_
  refine lv_iload_n C.1 C.2.1 dX1_weight_2 rfl (lv_at hl 2 rfl) ?_
  refine lv_iload_n C.1 C.2.1 dX1_weight_3 rfl (lv_at hl 3 rfl) ?_
  refine xt_ci hA hW (xt_runV C hW.1 hW.2.1 cwX1_X1_slot (cm_slot_y l D cI cL am S K n iz dz tp bt w ro wa ch al fr ka kb kc (by omega) (by omega) (hk)) rfl rfl rfl hl.1 (rest := []) rfl (Nat.le_of_ble_eq_true rfl) ⟨(Nat.le_of_ble_eq_true rfl), (Nat.le_of_ble_eq_true rfl)⟩ ⟨Nat.zero_le _, Nat.zero_le _⟩ dX1_weight_4) (fun r4 u H locs hp4 hW => ?_)
  replace hW : xt_W D A ss.heap (xM am cI cL S K n iz dz tp bt w ro wa ch al fr) H locs := hW
  subst hp4
  refine lv_istore C.1 C.2.1 dX1_weight_7 hl (by decide) rfl (fun ls hl => ?_)
  replace hl : lv_has ls 5 [(4, .int (nI (mq_sl ka kb kc))), (0, .ref (am 0)), (1, .int (nI ka)), (2, .int (nI kb)), (3, .int (nI kc))] := hl
  refine lv_iload C.1 C.2.1 dX1_weight_9 (lv_at hl 0 rfl) ?_
  refine xt_if_ge C (by omega) dX1_weight_11 (tgt := 18) (by decide) ?_
  refine lv_aload_n C.1 C.2.1 dX1_weight_18 rfl (lv_at hl 1 rfl) ?_
  refine xt_get xt_inX1 C hW 0 rfl rfl 2 (by decide) rfl flX1_weights rfl dX1_weight_19 ?_
  refine lv_iload C.1 C.2.1 dX1_weight_22 (lv_at hl 0 rfl) ?_
  refine xt_iald C hW 1 rfl (by decide) dX1_weight_24 (by omega) ?_
  refine W.eq (g2 := F0 mi 25 ls [.int (nI (w (mq_sl ka kb kc)))]) rfl ?_
  exact xt_iret C hE () hW (rfl) dX1_weight_25
set_option maxHeartbeats 4000000 in
set_option maxRecDepth 100000 in
theorem cm_weight_n (l : Launch) (D : va_G) (cI cL : ClassId) (am : Nat → Nat) (S K n iz dz tp bt : Nat) (w ro wa ch al fr : Nat → Nat) (kd : Int32) (ro2 : Int32) (co : Int32) (hV : mq_V S K n w ro) (hno : ¬ ∃ a b c, xt_ok S K kd ro2 co a b c) : xt_M l yX1_weight cX1_weight 5 (some .int) 2 D cI cL [.ref (am 0), .int kd, .int ro2, .int co] (xM am cI cL S K n iz dz tp bt w ro wa ch al fr) (xt_Qi D cI cL (xM am cI cL S K n iz dz tp bt w ro wa ch al fr) (fun (r : Int32) (u : Unit) => r =  (-1)) (fun u => xM am cI cL S K n iz dz tp bt w ro wa ch al fr)) := by
  obtain ⟨hS0, hS3, hK0, hK4, hn6, hw, hsK⟩ := hV
  have hsy : ∀ p, p < n → ro p < 4 := fun p h => Nat.lt_of_lt_of_le (hsK p h) hK4
  refine xt_start (own := RX1) rfl (by decide) (Nat.le_of_ble_eq_true rfl) (fun pg ev ss mi args below meth cd A Q ls C hE hA hl hW => ?_)
  replace hl : lv_has ls 5 [(0, .ref (am 0)), (1, .int kd), (2, .int ro2), (3, .int co)] := hl
  refine lv_aload_n C.1 C.2.1 dX1_weight_0 rfl (lv_at hl 0 rfl) ?_
  refine lv_iload_n C.1 C.2.1 dX1_weight_1 rfl (lv_at hl 1 rfl) ?_
  refine lv_iload_n C.1 C.2.1 dX1_weight_2 rfl (lv_at hl 2 rfl) ?_
  refine lv_iload_n C.1 C.2.1 dX1_weight_3 rfl (lv_at hl 3 rfl) ?_
  refine xt_ci hA hW (xt_runV C hW.1 hW.2.1 cwX1_X1_slot (cm_slot_n l D cI cL am S K n iz dz tp bt w ro wa ch al fr kd ro2 co (by omega) (by omega) (hno)) rfl rfl rfl hl.1 (rest := []) rfl (Nat.le_of_ble_eq_true rfl) ⟨(Nat.le_of_ble_eq_true rfl), (Nat.le_of_ble_eq_true rfl)⟩ ⟨Nat.zero_le _, Nat.zero_le _⟩ dX1_weight_4) (fun r4 u H locs hp4 hW => ?_)
  replace hW : xt_W D A ss.heap (xM am cI cL S K n iz dz tp bt w ro wa ch al fr) H locs := hW
  subst hp4
  refine lv_istore C.1 C.2.1 dX1_weight_7 hl (by decide) rfl (fun ls hl => ?_)
  replace hl : lv_has ls 5 [(4, .int (-1)), (0, .ref (am 0)), (1, .int kd), (2, .int ro2), (3, .int co)] := hl
  refine lv_iload C.1 C.2.1 dX1_weight_9 (lv_at hl 0 rfl) ?_
  refine lv_if_ge C.1 C.2.1 dX1_weight_11 (tgt := 18) (by decide) (fun h11 => ?_) (fun h11 => ?_)
  · exfalso
    exact absurd h11 (by decide)
  · refine lv_iconst (v := -1) C.1 C.2.1 dX1_weight_14 (by decide +kernel) ?_
    refine lv_goto C.1 C.2.1 dX1_weight_15 (tgt := 25) (by decide) ?_
    exact xt_iret C hE () hW (rfl) dX1_weight_25
set_option maxHeartbeats 4000000 in
set_option maxRecDepth 100000 in
theorem cm_see_y (l : Launch) (D : va_G) (cI cL : ClassId) (am : Nat → Nat) (S K n iz dz tp bt : Nat) (w ro wa ch al fr : Nat → Nat) (k : Nat) (hV : mq_V S K n w ro) (hkK : k < K) (hnn : n < 6) : xt_M l yX1_see cX1_see 2 (some .int) 1 D cI cL [.ref (am 0), .int (nI k)] (xM am cI cL S K n iz dz tp bt w ro wa ch al fr) (xt_Qi D cI cL (xM am cI cL S K n iz dz tp bt w ro wa ch al fr) (fun (r : Int32) (u : Unit) => r = nI (n + 1)) (fun u => xM am cI cL S K (n + 1) iz dz tp bt w (va_up ro n k) wa ch al fr)) := by
  obtain ⟨hS0, hS3, hK0, hK4, hn6, hw, hsK⟩ := hV
  have hsy : ∀ p, p < n → ro p < 4 := fun p h => Nat.lt_of_lt_of_le (hsK p h) hK4
  refine xt_start (own := RX1) rfl (by decide) (Nat.le_of_ble_eq_true rfl) (fun pg ev ss mi args below meth cd A Q ls C hE hA hl hW => ?_)
  replace hl : lv_has ls 2 [(0, .ref (am 0)), (1, .int (nI k))] := hl
  refine lv_aload_n C.1 C.2.1 dX1_see_0 rfl (lv_at hl 0 rfl) ?_
  refine lv_iload_n C.1 C.2.1 dX1_see_1 rfl (lv_at hl 1 rfl) ?_
  refine xt_ci hA hW (xt_runV C hW.1 hW.2.1 cwX1_X1_isSymbol (cm_isSymbol l D cI cL am S K n iz dz tp bt w ro wa ch al fr (nI k) (by omega)) rfl rfl rfl hl.1 (rest := []) rfl (Nat.le_of_ble_eq_true rfl) ⟨(Nat.le_of_ble_eq_true rfl), (Nat.le_of_ble_eq_true rfl)⟩ ⟨Nat.zero_le _, Nat.zero_le _⟩ dX1_see_2) (fun r2 u H locs hp2 hW => ?_)
  replace hW : xt_W D A ss.heap (xM am cI cL S K n iz dz tp bt w ro wa ch al fr) H locs := hW
  replace hp2 : (r2 = nI 1 ∧ ∃ z1, z1 < K ∧ (nI k) = nI z1) ∨ (r2 = nI 0 ∧ ¬ ∃ z1, z1 < K ∧ (nI k) = nI z1) := hp2
  rcases hp2 with ⟨rfl, -⟩ | ⟨-, hno⟩
  · replace hl : lv_has ls 2 [(0, .ref (am 0)), (1, .int (nI k))] := hl
    refine xt_if_eq C (by omega) dX1_see_5 (tgt := 17) (by decide) (fun h5 => ?_) (fun h5 => ?_)
    · exfalso
      omega
    · refine lv_aload_n C.1 C.2.1 dX1_see_8 rfl (lv_at hl 0 rfl) ?_
      refine xt_get xt_inX1 C hW 0 rfl rfl 3 (by decide) rfl flX1_n rfl dX1_see_9 ?_
      refine xt_bipush C 6 dX1_see_12 (by decide +kernel) ?_
      refine xt_icmp_ne C (by omega) (by omega) dX1_see_14 (tgt := 19) (by decide) (fun h14 => ?_) (fun h14 => ?_)
      · refine lv_aload_n C.1 C.2.1 dX1_see_19 rfl (lv_at hl 0 rfl) ?_
        refine xt_get xt_inX1 C hW 0 rfl rfl 4 (by decide) rfl flX1_row rfl dX1_see_20 ?_
        refine lv_aload_n C.1 C.2.1 dX1_see_23 rfl (lv_at hl 0 rfl) ?_
        refine xt_get xt_inX1 C hW 0 rfl rfl 3 (by decide) rfl flX1_n rfl dX1_see_24 ?_
        refine lv_iload_n C.1 C.2.1 dX1_see_27 rfl (lv_at hl 1 rfl) ?_
        refine xt_iast C hW 2 rfl (by decide) dX1_see_28 (by omega) (fun H locs hW => ?_)
        replace hW : xt_W D A ss.heap (xM am cI cL S K n iz dz tp bt w (va_up ro n k) wa ch al fr) H locs := hW
        refine lv_aload_n C.1 C.2.1 dX1_see_29 rfl (lv_at hl 0 rfl) ?_
        refine lv_dup C.1 C.2.1 dX1_see_30 rfl ?_
        refine xt_get xt_inX1 C hW 0 rfl rfl 3 (by decide) rfl flX1_n rfl dX1_see_31 ?_
        refine xt_iconst C 1 dX1_see_34 (by decide +kernel) ?_
        refine xt_iadd C dX1_see_35 ?_
        refine xt_put (ty := .int) xt_inX1 tyX1 tyX1_ok nmX1 C hW 0 rfl rfl 3 (by decide) rfl flX1_n rfl (by decide +kernel) rfl rfl (Nat.le_of_ble_eq_true rfl) dX1_see_36 (fun H locs hW => ?_)
        replace hW : xt_W D A ss.heap (xM am cI cL S K (n + 1) iz dz tp bt w (va_up ro n k) wa ch al fr) H locs := hW
        refine W.eq (g2 := F0 mi 39 ls []) rfl ?_
        refine lv_aload_n C.1 C.2.1 dX1_see_39 rfl (lv_at hl 0 rfl) ?_
        refine xt_get xt_inX1 C hW 0 rfl rfl 3 (by decide) rfl flX1_n rfl dX1_see_40 ?_
        exact xt_iret C hE () hW (rfl) dX1_see_43
      · exfalso
        omega
  · exact absurd (⟨k, by omega, rfl⟩) hno
set_option maxHeartbeats 4000000 in
set_option maxRecDepth 100000 in
theorem cm_see_n (l : Launch) (D : va_G) (cI cL : ClassId) (am : Nat → Nat) (S K n iz dz tp bt : Nat) (w ro wa ch al fr : Nat → Nat) (q : Int32) (hV : mq_V S K n w ro) (hno : ¬ ((∃ j, j < K ∧ q = nI j) ∧ n < 6)) : xt_M l yX1_see cX1_see 2 (some .int) 1 D cI cL [.ref (am 0), .int q] (xM am cI cL S K n iz dz tp bt w ro wa ch al fr) (xt_Qi D cI cL (xM am cI cL S K n iz dz tp bt w ro wa ch al fr) (fun (r : Int32) (u : Unit) => r =  (-1)) (fun u => xM am cI cL S K n iz dz tp bt w ro wa ch al fr)) := by
  obtain ⟨hS0, hS3, hK0, hK4, hn6, hw, hsK⟩ := hV
  have hsy : ∀ p, p < n → ro p < 4 := fun p h => Nat.lt_of_lt_of_le (hsK p h) hK4
  refine xt_start (own := RX1) rfl (by decide) (Nat.le_of_ble_eq_true rfl) (fun pg ev ss mi args below meth cd A Q ls C hE hA hl hW => ?_)
  replace hl : lv_has ls 2 [(0, .ref (am 0)), (1, .int q)] := hl
  refine lv_aload_n C.1 C.2.1 dX1_see_0 rfl (lv_at hl 0 rfl) ?_
  refine lv_iload_n C.1 C.2.1 dX1_see_1 rfl (lv_at hl 1 rfl) ?_
  refine xt_ci hA hW (xt_runV C hW.1 hW.2.1 cwX1_X1_isSymbol (cm_isSymbol l D cI cL am S K n iz dz tp bt w ro wa ch al fr q (by omega)) rfl rfl rfl hl.1 (rest := []) rfl (Nat.le_of_ble_eq_true rfl) ⟨(Nat.le_of_ble_eq_true rfl), (Nat.le_of_ble_eq_true rfl)⟩ ⟨Nat.zero_le _, Nat.zero_le _⟩ dX1_see_2) (fun r2 u H locs hp2 hW => ?_)
  replace hW : xt_W D A ss.heap (xM am cI cL S K n iz dz tp bt w ro wa ch al fr) H locs := hW
  replace hp2 : (r2 = nI 1 ∧ ∃ z1, z1 < K ∧ q = nI z1) ∨ (r2 = nI 0 ∧ ¬ ∃ z1, z1 < K ∧ q = nI z1) := hp2
  rcases hp2 with ⟨rfl, hy1⟩ | ⟨rfl, -⟩
  · replace hl : lv_has ls 2 [(0, .ref (am 0)), (1, .int q)] := hl
    refine xt_if_eq C (by omega) dX1_see_5 (tgt := 17) (by decide) (fun h5 => ?_) (fun h5 => ?_)
    · exfalso
      omega
    · refine lv_aload_n C.1 C.2.1 dX1_see_8 rfl (lv_at hl 0 rfl) ?_
      refine xt_get xt_inX1 C hW 0 rfl rfl 3 (by decide) rfl flX1_n rfl dX1_see_9 ?_
      refine xt_bipush C 6 dX1_see_12 (by decide +kernel) ?_
      refine xt_icmp_ne C (by omega) (by omega) dX1_see_14 (tgt := 19) (by decide) (fun h14 => ?_) (fun h14 => ?_)
      · exfalso
        exact hno ⟨hy1, by omega⟩
      · refine lv_iconst (v := -1) C.1 C.2.1 dX1_see_17 (by decide +kernel) ?_
        exact xt_iret C hE () hW (rfl) dX1_see_18
  · replace hl : lv_has ls 2 [(0, .ref (am 0)), (1, .int q)] := hl
    refine xt_if_eq C (by omega) dX1_see_5 (tgt := 17) (by decide) (fun h5 => ?_) (fun h5 => ?_)
    · refine lv_iconst (v := -1) C.1 C.2.1 dX1_see_17 (by decide +kernel) ?_
      exact xt_iret C hE () hW (rfl) dX1_see_18
    · exfalso
      omega
set_option maxHeartbeats 4000000 in
set_option maxRecDepth 100000 in
theorem cm_forget_y (l : Launch) (D : va_G) (cI cL : ClassId) (am : Nat → Nat) (S K n iz dz tp bt : Nat) (w ro wa ch al fr : Nat → Nat) (j : Nat) (hV : mq_V S K n w ro) (hjn : j ≤ n) : xt_M l yX1_forget cX1_forget 3 (some .int) 0 D cI cL [.ref (am 0), .int (nI j)] (xM am cI cL S K n iz dz tp bt w ro wa ch al fr) (xt_Qi D cI cL (xM am cI cL S K n iz dz tp bt w ro wa ch al fr) (fun (r : Int32) (u : Unit) => r = nI (n - j)) (fun u => xM am cI cL S K j iz dz tp bt w ro wa ch al fr)) := by
  obtain ⟨hS0, hS3, hK0, hK4, hn6, hw, hsK⟩ := hV
  have hsy : ∀ p, p < n → ro p < 4 := fun p h => Nat.lt_of_lt_of_le (hsK p h) hK4
  refine xt_start (own := RX1) rfl (by decide) (Nat.le_of_ble_eq_true rfl) (fun pg ev ss mi args below meth cd A Q ls C hE hA hl hW => ?_)
  replace hl : lv_has ls 3 [(0, .ref (am 0)), (1, .int (nI j))] := hl
  refine lv_iload_n C.1 C.2.1 dX1_forget_0 rfl (lv_at hl 1 rfl) ?_
  refine xt_if_lt C (by omega) dX1_forget_1 (tgt := 12) (by decide) ?_
  refine lv_iload_n C.1 C.2.1 dX1_forget_4 rfl (lv_at hl 1 rfl) ?_
  refine lv_aload_n C.1 C.2.1 dX1_forget_5 rfl (lv_at hl 0 rfl) ?_
  refine xt_get xt_inX1 C hW 0 rfl rfl 3 (by decide) rfl flX1_n rfl dX1_forget_6 ?_
  refine xt_icmp_le C (by omega) (by omega) dX1_forget_9 (tgt := 14) (by decide) (fun h9 => ?_) (fun h9 => ?_)
  · refine lv_aload_n C.1 C.2.1 dX1_forget_14 rfl (lv_at hl 0 rfl) ?_
    refine xt_get xt_inX1 C hW 0 rfl rfl 3 (by decide) rfl flX1_n rfl dX1_forget_15 ?_
    refine lv_iload_n C.1 C.2.1 dX1_forget_18 rfl (lv_at hl 1 rfl) ?_
    refine xt_isub C dX1_forget_19 (by omega) ?_
    refine lv_istore_n C.1 C.2.1 dX1_forget_20 rfl hl (by decide) rfl (fun ls hl => ?_)
    replace hl : lv_has ls 3 [(2, .int (nI (n - j))), (0, .ref (am 0)), (1, .int (nI j))] := hl
    refine lv_aload_n C.1 C.2.1 dX1_forget_21 rfl (lv_at hl 1 rfl) ?_
    refine lv_iload_n C.1 C.2.1 dX1_forget_22 rfl (lv_at hl 2 rfl) ?_
    refine xt_put (ty := .int) xt_inX1 tyX1 tyX1_ok nmX1 C hW 0 rfl rfl 3 (by decide) rfl flX1_n rfl (by decide +kernel) rfl rfl (Nat.le_of_ble_eq_true rfl) dX1_forget_23 (fun H locs hW => ?_)
    replace hW : xt_W D A ss.heap (xM am cI cL S K j iz dz tp bt w ro wa ch al fr) H locs := hW
    refine lv_iload_n C.1 C.2.1 dX1_forget_26 rfl (lv_at hl 0 rfl) ?_
    exact xt_iret C hE () hW (rfl) dX1_forget_27
  · exfalso
    omega
set_option maxHeartbeats 4000000 in
set_option maxRecDepth 100000 in
theorem cm_forget_n (l : Launch) (D : va_G) (cI cL : ClassId) (am : Nat → Nat) (S K n iz dz tp bt : Nat) (w ro wa ch al fr : Nat → Nat) (q : Int32) (hV : mq_V S K n w ro) (hno : ¬ ∃ j, j ≤ n ∧ q = nI j) : xt_M l yX1_forget cX1_forget 3 (some .int) 0 D cI cL [.ref (am 0), .int q] (xM am cI cL S K n iz dz tp bt w ro wa ch al fr) (xt_Qi D cI cL (xM am cI cL S K n iz dz tp bt w ro wa ch al fr) (fun (r : Int32) (u : Unit) => r =  (-1)) (fun u => xM am cI cL S K n iz dz tp bt w ro wa ch al fr)) := by
  obtain ⟨hS0, hS3, hK0, hK4, hn6, hw, hsK⟩ := hV
  have hsy : ∀ p, p < n → ro p < 4 := fun p h => Nat.lt_of_lt_of_le (hsK p h) hK4
  refine xt_start (own := RX1) rfl (by decide) (Nat.le_of_ble_eq_true rfl) (fun pg ev ss mi args below meth cd A Q ls C hE hA hl hW => ?_)
  replace hl : lv_has ls 3 [(0, .ref (am 0)), (1, .int q)] := hl
  refine lv_iload_n C.1 C.2.1 dX1_forget_0 rfl (lv_at hl 1 rfl) ?_
  refine lv_if_lt C.1 C.2.1 dX1_forget_1 (tgt := 12) (by decide) (fun h1 => ?_) (fun h1 => ?_)
  · refine lv_iconst (v := -1) C.1 C.2.1 dX1_forget_12 (by decide +kernel) ?_
    exact xt_iret C hE () hW (rfl) dX1_forget_13
  · refine lv_iload_n C.1 C.2.1 dX1_forget_4 rfl (lv_at hl 1 rfl) ?_
    refine lv_aload_n C.1 C.2.1 dX1_forget_5 rfl (lv_at hl 0 rfl) ?_
    refine xt_get xt_inX1 C hW 0 rfl rfl 3 (by decide) rfl flX1_n rfl dX1_forget_6 ?_
    refine lv_icmp_le C.1 C.2.1 dX1_forget_9 (tgt := 14) (by decide) (fun h9 => ?_) (fun h9 => ?_)
    · exfalso
      exact hno (xq_le (by omega) h1 h9)
    · refine lv_iconst (v := -1) C.1 C.2.1 dX1_forget_12 (by decide +kernel) ?_
      exact xt_iret C hE () hW (rfl) dX1_forget_13
set_option maxHeartbeats 4000000 in
set_option maxRecDepth 100000 in
theorem cm_seen (l : Launch) (D : va_G) (cI cL : ClassId) (am : Nat → Nat) (S K n iz dz tp bt : Nat) (w ro wa ch al fr : Nat → Nat) : xt_M l yX1_seen cX1_seen 1 (some .int) 0 D cI cL [.ref (am 0)] (xM am cI cL S K n iz dz tp bt w ro wa ch al fr) (xt_Qi D cI cL (xM am cI cL S K n iz dz tp bt w ro wa ch al fr) (fun (r : Int32) (u : Unit) => r = nI n) (fun u => xM am cI cL S K n iz dz tp bt w ro wa ch al fr)) := by
  refine xt_start (own := RX1) rfl (by decide) (Nat.le_of_ble_eq_true rfl) (fun pg ev ss mi args below meth cd A Q ls C hE hA hl hW => ?_)
  replace hl : lv_has ls 1 [(0, .ref (am 0))] := hl
  refine lv_aload_n C.1 C.2.1 dX1_seen_0 rfl (lv_at hl 0 rfl) ?_
  refine xt_get xt_inX1 C hW 0 rfl rfl 3 (by decide) rfl flX1_n rfl dX1_seen_1 ?_
  exact xt_iret C hE () hW (rfl) dX1_seen_4
set_option maxHeartbeats 4000000 in
set_option maxRecDepth 100000 in
theorem cm_symbol_y (l : Launch) (D : va_G) (cI cL : ClassId) (am : Nat → Nat) (S K n iz dz tp bt : Nat) (w ro wa ch al fr : Nat → Nat) (j : Nat) (hV : mq_V S K n w ro) (hj : j < n) : xt_M l yX1_symbol cX1_symbol 2 (some .int) 0 D cI cL [.ref (am 0), .int (nI j)] (xM am cI cL S K n iz dz tp bt w ro wa ch al fr) (xt_Qi D cI cL (xM am cI cL S K n iz dz tp bt w ro wa ch al fr) (fun (r : Int32) (u : Unit) => r = nI (ro j)) (fun u => xM am cI cL S K n iz dz tp bt w ro wa ch al fr)) := by
  obtain ⟨hS0, hS3, hK0, hK4, hn6, hw, hsK⟩ := hV
  have hsy : ∀ p, p < n → ro p < 4 := fun p h => Nat.lt_of_lt_of_le (hsK p h) hK4
  refine xt_start (own := RX1) rfl (by decide) (Nat.le_of_ble_eq_true rfl) (fun pg ev ss mi args below meth cd A Q ls C hE hA hl hW => ?_)
  replace hl : lv_has ls 2 [(0, .ref (am 0)), (1, .int (nI j))] := hl
  refine lv_iload_n C.1 C.2.1 dX1_symbol_0 rfl (lv_at hl 1 rfl) ?_
  refine xt_if_lt C (by omega) dX1_symbol_1 (tgt := 12) (by decide) ?_
  refine lv_iload_n C.1 C.2.1 dX1_symbol_4 rfl (lv_at hl 1 rfl) ?_
  refine lv_aload_n C.1 C.2.1 dX1_symbol_5 rfl (lv_at hl 0 rfl) ?_
  refine xt_get xt_inX1 C hW 0 rfl rfl 3 (by decide) rfl flX1_n rfl dX1_symbol_6 ?_
  refine xt_icmp_lt C (by omega) (by omega) dX1_symbol_9 (tgt := 16) (by decide) (fun h9 => ?_) (fun h9 => ?_)
  · refine lv_aload_n C.1 C.2.1 dX1_symbol_16 rfl (lv_at hl 0 rfl) ?_
    refine xt_get xt_inX1 C hW 0 rfl rfl 4 (by decide) rfl flX1_row rfl dX1_symbol_17 ?_
    refine lv_iload_n C.1 C.2.1 dX1_symbol_20 rfl (lv_at hl 1 rfl) ?_
    refine xt_iald C hW 2 rfl (by decide) dX1_symbol_21 (by omega) ?_
    exact xt_iret C hE () hW (rfl) dX1_symbol_22
  · exfalso
    omega
set_option maxHeartbeats 4000000 in
set_option maxRecDepth 100000 in
theorem cm_symbol_n (l : Launch) (D : va_G) (cI cL : ClassId) (am : Nat → Nat) (S K n iz dz tp bt : Nat) (w ro wa ch al fr : Nat → Nat) (q : Int32) (hV : mq_V S K n w ro) (hno : ¬ ∃ j, j < n ∧ q = nI j) : xt_M l yX1_symbol cX1_symbol 2 (some .int) 0 D cI cL [.ref (am 0), .int q] (xM am cI cL S K n iz dz tp bt w ro wa ch al fr) (xt_Qi D cI cL (xM am cI cL S K n iz dz tp bt w ro wa ch al fr) (fun (r : Int32) (u : Unit) => r =  (-1)) (fun u => xM am cI cL S K n iz dz tp bt w ro wa ch al fr)) := by
  obtain ⟨hS0, hS3, hK0, hK4, hn6, hw, hsK⟩ := hV
  have hsy : ∀ p, p < n → ro p < 4 := fun p h => Nat.lt_of_lt_of_le (hsK p h) hK4
  refine xt_start (own := RX1) rfl (by decide) (Nat.le_of_ble_eq_true rfl) (fun pg ev ss mi args below meth cd A Q ls C hE hA hl hW => ?_)
  replace hl : lv_has ls 2 [(0, .ref (am 0)), (1, .int q)] := hl
  refine lv_iload_n C.1 C.2.1 dX1_symbol_0 rfl (lv_at hl 1 rfl) ?_
  refine lv_if_lt C.1 C.2.1 dX1_symbol_1 (tgt := 12) (by decide) (fun h1 => ?_) (fun h1 => ?_)
  · refine lv_iconst (v := -1) C.1 C.2.1 dX1_symbol_12 (by decide +kernel) ?_
    refine lv_goto C.1 C.2.1 dX1_symbol_13 (tgt := 22) (by decide) ?_
    exact xt_iret C hE () hW (rfl) dX1_symbol_22
  · refine lv_iload_n C.1 C.2.1 dX1_symbol_4 rfl (lv_at hl 1 rfl) ?_
    refine lv_aload_n C.1 C.2.1 dX1_symbol_5 rfl (lv_at hl 0 rfl) ?_
    refine xt_get xt_inX1 C hW 0 rfl rfl 3 (by decide) rfl flX1_n rfl dX1_symbol_6 ?_
    refine lv_icmp_lt C.1 C.2.1 dX1_symbol_9 (tgt := 16) (by decide) (fun h9 => ?_) (fun h9 => ?_)
    · exfalso
      exact hno (xq_yes (by omega) h1 (fun q => absurd h9 (Int32.not_lt.mpr q)))
    · refine lv_iconst (v := -1) C.1 C.2.1 dX1_symbol_12 (by decide +kernel) ?_
      refine lv_goto C.1 C.2.1 dX1_symbol_13 (tgt := 22) (by decide) ?_
      exact xt_iret C hE () hW (rfl) dX1_symbol_22
set_option maxHeartbeats 4000000 in
set_option maxRecDepth 100000 in
theorem cm_drawn_y (l : Launch) (D : va_G) (cI cL : ClassId) (am : Nat → Nat) (S K n iz dz tp bt : Nat) (w ro wa ch al fr : Nat → Nat) (j : Nat) (hd6 : dz ≤ 6) (hj : j < dz) (hiz : iz = 1) : xt_M l yX1_drawn cX1_drawn 2 (some .int) 0 D cI cL [.ref (am 0), .int (nI j)] (xM am cI cL S K n iz dz tp bt w ro wa ch al fr) (xt_Qi D cI cL (xM am cI cL S K n iz dz tp bt w ro wa ch al fr) (fun (r : Int32) (u : Unit) => r = nI (ch j)) (fun u => xM am cI cL S K n iz dz tp bt w ro wa ch al fr)) := by
  refine xt_start (own := RX1) rfl (by decide) (Nat.le_of_ble_eq_true rfl) (fun pg ev ss mi args below meth cd A Q ls C hE hA hl hW => ?_)
  replace hl : lv_has ls 2 [(0, .ref (am 0)), (1, .int (nI j))] := hl
  refine lv_aload_n C.1 C.2.1 dX1_drawn_0 rfl (lv_at hl 0 rfl) ?_
  refine xt_get xt_inX1 C hW 0 rfl rfl 6 (by decide) rfl flX1_isDrawn rfl dX1_drawn_1 ?_
  refine xt_if_eq C (by omega) dX1_drawn_4 (tgt := 28) (by decide) (fun h4 => ?_) (fun h4 => ?_)
  · exfalso
    omega
  · refine lv_iload_n C.1 C.2.1 dX1_drawn_7 rfl (lv_at hl 1 rfl) ?_
    refine xt_if_lt C (by omega) dX1_drawn_8 (tgt := 28) (by decide) ?_
    refine lv_iload_n C.1 C.2.1 dX1_drawn_11 rfl (lv_at hl 1 rfl) ?_
    refine lv_aload_n C.1 C.2.1 dX1_drawn_12 rfl (lv_at hl 0 rfl) ?_
    refine xt_get xt_inX1 C hW 0 rfl rfl 7 (by decide) rfl flX1_drawnSize rfl dX1_drawn_13 ?_
    refine xt_icmp_ge C (by omega) (by omega) dX1_drawn_16 (tgt := 28) (by decide) (fun h16 => ?_) (fun h16 => ?_)
    · exfalso
      omega
    · refine lv_aload_n C.1 C.2.1 dX1_drawn_19 rfl (lv_at hl 0 rfl) ?_
      refine xt_get xt_inX1 C hW 0 rfl rfl 8 (by decide) rfl flX1_chosen rfl dX1_drawn_20 ?_
      refine lv_iload_n C.1 C.2.1 dX1_drawn_23 rfl (lv_at hl 1 rfl) ?_
      refine xt_iald C hW 4 rfl (by decide) dX1_drawn_24 (by omega) ?_
      refine lv_goto C.1 C.2.1 dX1_drawn_25 (tgt := 29) (by decide) ?_
      exact xt_iret C hE () hW (rfl) dX1_drawn_29
set_option maxHeartbeats 4000000 in
set_option maxRecDepth 100000 in
theorem cm_drawn_n (l : Launch) (D : va_G) (cI cL : ClassId) (am : Nat → Nat) (S K n iz dz tp bt : Nat) (w ro wa ch al fr : Nat → Nat) (q : Int32) (hd6 : dz ≤ 6) (hiz : iz ≤ 1) (hno : ¬ (iz = 1 ∧ ∃ j, j < dz ∧ q = nI j)) : xt_M l yX1_drawn cX1_drawn 2 (some .int) 0 D cI cL [.ref (am 0), .int q] (xM am cI cL S K n iz dz tp bt w ro wa ch al fr) (xt_Qi D cI cL (xM am cI cL S K n iz dz tp bt w ro wa ch al fr) (fun (r : Int32) (u : Unit) => r =  (-1)) (fun u => xM am cI cL S K n iz dz tp bt w ro wa ch al fr)) := by
  refine xt_start (own := RX1) rfl (by decide) (Nat.le_of_ble_eq_true rfl) (fun pg ev ss mi args below meth cd A Q ls C hE hA hl hW => ?_)
  replace hl : lv_has ls 2 [(0, .ref (am 0)), (1, .int q)] := hl
  refine lv_aload_n C.1 C.2.1 dX1_drawn_0 rfl (lv_at hl 0 rfl) ?_
  refine xt_get xt_inX1 C hW 0 rfl rfl 6 (by decide) rfl flX1_isDrawn rfl dX1_drawn_1 ?_
  refine xt_if_eq C (by omega) dX1_drawn_4 (tgt := 28) (by decide) (fun h4 => ?_) (fun h4 => ?_)
  · refine lv_iconst (v := -1) C.1 C.2.1 dX1_drawn_28 (by decide +kernel) ?_
    exact xt_iret C hE () hW (rfl) dX1_drawn_29
  · refine lv_iload_n C.1 C.2.1 dX1_drawn_7 rfl (lv_at hl 1 rfl) ?_
    refine lv_if_lt C.1 C.2.1 dX1_drawn_8 (tgt := 28) (by decide) (fun h8 => ?_) (fun h8 => ?_)
    · refine lv_iconst (v := -1) C.1 C.2.1 dX1_drawn_28 (by decide +kernel) ?_
      exact xt_iret C hE () hW (rfl) dX1_drawn_29
    · refine lv_iload_n C.1 C.2.1 dX1_drawn_11 rfl (lv_at hl 1 rfl) ?_
      refine lv_aload_n C.1 C.2.1 dX1_drawn_12 rfl (lv_at hl 0 rfl) ?_
      refine xt_get xt_inX1 C hW 0 rfl rfl 7 (by decide) rfl flX1_drawnSize rfl dX1_drawn_13 ?_
      refine lv_icmp_ge C.1 C.2.1 dX1_drawn_16 (tgt := 28) (by decide) (fun h16 => ?_) (fun h16 => ?_)
      · refine lv_iconst (v := -1) C.1 C.2.1 dX1_drawn_28 (by decide +kernel) ?_
        exact xt_iret C hE () hW (rfl) dX1_drawn_29
      · exfalso
        exact hno ⟨by omega, xq_yes (by omega) h8 h16⟩
