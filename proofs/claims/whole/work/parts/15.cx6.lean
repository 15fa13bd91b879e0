theorem xq_no1 {q : Int32} {n : Nat} (hn : n < 2 ^ 31) (h : q < 0) : ¬ ∃ j, j < n ∧ q = nI j := by
  rintro ⟨j, hj, rfl⟩
  exact nI_pos (by omega) h
theorem xq_no2 {q : Int32} {n : Nat} (hn : n < 2 ^ 31) (h : nI n ≤ q) : ¬ ∃ j, j < n ∧ q = nI j := by
  rintro ⟨j, hj, rfl⟩
  have := (nI_leI hn (by omega)).mp h
  omega
theorem xq_yes {q : Int32} {n : Nat} (hn : n < 2 ^ 31) (h1 : ¬ q < 0) (h2 : ¬ nI n ≤ q) : ∃ j, j < n ∧ q = nI j := by
  rcases pk_ix q hn with h | h | h
  · exact absurd h h1
  · exact absurd h h2
  · exact h
theorem xq_sw3 {k : Int32} (h0 : ¬ k = nI 0) (h1 : ¬ k = nI 1) (h2 : ¬ k = nI 2) : k.toInt < 0 ∨ 2 < k.toInt := by
  by_cases h : k < 0
  · left
    have := Int32.lt_iff_toInt_lt.mp h
    rw [Int32.toInt_zero] at this
    exact this
  · right
    obtain ⟨j, hj, rfl⟩ := nI_of h
    rw [nI_toInt hj]
    have a0 : j ≠ 0 := fun q => h0 (by rw [q])
    have a1 : j ≠ 1 := fun q => h1 (by rw [q])
    have a2 : j ≠ 2 := fun q => h2 (by rw [q])
    omega
/-- a weight that is there -/
def xt_ok (S K : Nat) (kd ro co : Int32) (a b c : Nat) : Prop := kd = nI a ∧ ro = nI b ∧ co = nI c ∧ ((a = 0 ∧ b = 0 ∧ c < S) ∨ (a = 1 ∧ b < S ∧ c < S) ∨ (a = 2 ∧ b < S ∧ c < K))
theorem xq_okn {S K : Nat} {kd ro co : Int32} {a m n : Nat} (hS : S < 2 ^ 31) (hK : K < 2 ^ 31) (hm : m < 2 ^ 31) (hn : n < 2 ^ 31) (hd : kd = nI a) (ha : a < 3) (hmm : ∀ b c, ((a = 0 ∧ b = 0 ∧ c < S) ∨ (a = 1 ∧ b < S ∧ c < S) ∨ (a = 2 ∧ b < S ∧ c < K)) ↔ b < m ∧ c < n) (h : ro < 0 ∨ nI m ≤ ro ∨ co < 0 ∨ nI n ≤ co) : ¬ ∃ a b c, xt_ok S K kd ro co a b c := by
  rintro ⟨a', b, c, e1, rfl, rfl, hk⟩
  have ea : a' = a := by
    rw [hd] at e1
    exact ((nI_eq (by omega) (by omega)).mp e1).symm
  subst ea
  obtain ⟨h1, h2⟩ := (hmm b c).mp hk
  rcases h with h | h | h | h
  · exact nI_pos (by omega) h
  · have := (nI_leI hm (by omega)).mp h
    omega
  · exact nI_pos (by omega) h
  · have := (nI_leI hn (by omega)).mp h
    omega
theorem xq_oky {S K : Nat} {kd ro co : Int32} {a m n : Nat} (hm : m < 2 ^ 31) (hn : n < 2 ^ 31) (hd : kd = nI a) (hmm : ∀ b c, ((a = 0 ∧ b = 0 ∧ c < S) ∨ (a = 1 ∧ b < S ∧ c < S) ∨ (a = 2 ∧ b < S ∧ c < K)) ↔ b < m ∧ c < n) (h1 : ¬ ro < 0) (h2 : ¬ nI m ≤ ro) (h3 : ¬ co < 0) (h4 : ¬ nI n ≤ co) : ∃ a b c, xt_ok S K kd ro co a b c := by
  obtain ⟨b, hb, rfl⟩ := xq_yes hm h1 h2
  obtain ⟨c, hc, rfl⟩ := xq_yes hn h3 h4
  exact ⟨a, b, c, hd, rfl, rfl, (hmm b c).mpr ⟨hb, hc⟩⟩
theorem xq_okx {S K : Nat} {kd ro co : Int32} (h0 : ¬ kd = nI 0) (h1 : ¬ kd = nI 1) (h2 : ¬ kd = nI 2) : ¬ ∃ a b c, xt_ok S K kd ro co a b c := by
  rintro ⟨a, b, c, e, -, -, hk⟩
  rcases hk with h | h | h
  · exact h0 (by rw [e, h.1])
  · exact h1 (by rw [e, h.1])
  · exact h2 (by rw [e, h.1])
theorem xq_rk1 {q : Int32} {wc : Nat} (h : nI 12 ≤ q) : ¬ ∃ j, j < min wc 12 ∧ q = nI j := by
  rintro ⟨j, hj, rfl⟩
  have := (nI_leI (by omega) (by omega)).mp h
  omega
theorem xq_rk2 {q : Int32} {wc : Nat} (hwc : wc < 2 ^ 30) (h : nI wc ≤ q) : ¬ ∃ j, j < min wc 12 ∧ q = nI j := by
  rintro ⟨j, hj, rfl⟩
  have := (nI_leI (by omega) (by omega)).mp h
  omega
theorem xq_rk3 {q : Int32} {wc : Nat} (hwc : wc < 2 ^ 30) (h1 : ¬ q < 0) (h2 : ¬ nI 12 ≤ q) (h3 : ¬ nI wc ≤ q) : ∃ j, j < min wc 12 ∧ q = nI j := by
  obtain ⟨j, hj, rfl⟩ := xq_yes (by omega) h1 h2
  refine ⟨j, ?_, rfl⟩
  have : ¬ wc ≤ j := fun q => h3 ((nI_leI (by omega) (by omega)).mpr q)
  omega
theorem xq_neg1 {S K : Nat} {kd ro co : Int32} (hS : S ≤ 3) (h : ro < 0) : ¬ ∃ a b c, xt_ok S K kd ro co a b c := by
  rintro ⟨a, b, c, -, rfl, -, hk⟩
  exact nI_pos (by omega) h
set_option maxHeartbeats 4000000 in
set_option maxRecDepth 100000 in
theorem cx_rowsOf (l : Launch) (D : va_G) (cI cL : ClassId) (ad : Nat → Nat) (S K n wc dn : Nat) (w lw sy sb sh rw rk dr : Nat → Nat) (k : Int32) : xt_M l yX0_rowsOf cX0_rowsOf 2 (some .int) 0 D cI cL [.ref (ad 0), .int k] (xX ad cI cL S K n wc dn w lw sy sb sh rw rk dr) (xt_Qi D cI cL (xX ad cI cL S K n wc dn w lw sy sb sh rw rk dr) (fun (r : Int32) (u : Unit) => (k = nI 0 ∧ r = nI 1) ∨ (k = nI 1 ∧ r = nI S) ∨ (k = nI 2 ∧ r = nI S) ∨ (¬ k = nI 0 ∧ ¬ k = nI 1 ∧ ¬ k = nI 2 ∧ r = nI 0)) (fun u => xX ad cI cL S K n wc dn w lw sy sb sh rw rk dr)) := by
  refine xt_start (own := RX0) rfl (by decide) (Nat.le_of_ble_eq_true rfl) (fun pg ev ss mi args below meth cd A Q ls C hE hA hl hW => ?_)
  replace hl : lv_has ls 2 [(0, .ref (ad 0)), (1, .int k)] := hl
  refine lv_iload_n C.1 C.2.1 dX0_rowsOf_0 rfl (lv_at hl 1 rfl) ?_
  by_cases e0 : k = nI 0
  · subst e0
    replace hl : lv_has ls 2 [(0, .ref (ad 0)), (1, .int (nI 0))] := hl
    refine lv_tableIn C.1 C.2.1 dX0_rowsOf_1 (off := 27) (tgt := 28) (by decide +kernel) (by decide +kernel) (by decide +kernel) (by decide) ?_
    refine xt_iconst C 1 dX0_rowsOf_28 (by decide +kernel) ?_
    exact xt_iret C hE () hW (Or.inl ⟨rfl, rfl⟩) dX0_rowsOf_29
  by_cases e1 : k = nI 1
  · subst e1
    replace hl : lv_has ls 2 [(0, .ref (ad 0)), (1, .int (nI 1))] := hl
    refine lv_tableIn C.1 C.2.1 dX0_rowsOf_1 (off := 29) (tgt := 30) (by decide +kernel) (by decide +kernel) (by decide +kernel) (by decide) ?_
    refine lv_aload_n C.1 C.2.1 dX0_rowsOf_30 rfl (lv_at hl 0 rfl) ?_
    refine xt_get xt_inX0 C hW 0 rfl rfl 0 (by decide) rfl flX0_stateCount rfl dX0_rowsOf_31 ?_
    exact xt_iret C hE () hW (Or.inr (Or.inl ⟨rfl, rfl⟩)) dX0_rowsOf_34
  by_cases e2 : k = nI 2
  · subst e2
    replace hl : lv_has ls 2 [(0, .ref (ad 0)), (1, .int (nI 2))] := hl
    refine lv_tableIn C.1 C.2.1 dX0_rowsOf_1 (off := 29) (tgt := 30) (by decide +kernel) (by decide +kernel) (by decide +kernel) (by decide) ?_
    refine lv_aload_n C.1 C.2.1 dX0_rowsOf_30 rfl (lv_at hl 0 rfl) ?_
    refine xt_get xt_inX0 C hW 0 rfl rfl 0 (by decide) rfl flX0_stateCount rfl dX0_rowsOf_31 ?_
    exact xt_iret C hE () hW (Or.inr (Or.inr (Or.inl ⟨rfl, rfl⟩))) dX0_rowsOf_34
  refine lv_tableOut C.1 C.2.1 dX0_rowsOf_1 (xq_sw3 e0 e1 e2) (tgt := 35) (by decide) ?_
  refine xt_iconst C 0 dX0_rowsOf_35 (by decide +kernel) ?_
  exact xt_iret C hE () hW (Or.inr (Or.inr (Or.inr ⟨e0, e1, e2, rfl⟩))) dX0_rowsOf_36
set_option maxHeartbeats 4000000 in
set_option maxRecDepth 100000 in
theorem cx_columnsOf (l : Launch) (D : va_G) (cI cL : ClassId) (ad : Nat → Nat) (S K n wc dn : Nat) (w lw sy sb sh rw rk dr : Nat → Nat) (a : Nat) (ha30 : a < 2 ^ 30) : xt_M l yX0_columnsOf cX0_columnsOf 2 (some .int) 0 D cI cL [.ref (ad 0), .int (nI a)] (xX ad cI cL S K n wc dn w lw sy sb sh rw rk dr) (xt_Qi D cI cL (xX ad cI cL S K n wc dn w lw sy sb sh rw rk dr) (fun (r : Int32) (u : Unit) => r = nI (if a = 2 then K else S)) (fun u => xX ad cI cL S K n wc dn w lw sy sb sh rw rk dr)) := by
  refine xt_start (own := RX0) rfl (by decide) (Nat.le_of_ble_eq_true rfl) (fun pg ev ss mi args below meth cd A Q ls C hE hA hl hW => ?_)
  replace hl : lv_has ls 2 [(0, .ref (ad 0)), (1, .int (nI a))] := hl
  refine lv_iload_n C.1 C.2.1 dX0_columnsOf_0 rfl (lv_at hl 1 rfl) ?_
  refine xt_iconst C 2 dX0_columnsOf_1 (by decide +kernel) ?_
  refine xt_icmp_ne C (by omega) (by omega) dX0_columnsOf_2 (tgt := 12) (by decide) (fun h2 => ?_) (fun h2 => ?_)
  · refine lv_aload_n C.1 C.2.1 dX0_columnsOf_12 rfl (lv_at hl 0 rfl) ?_
    refine xt_get xt_inX0 C hW 0 rfl rfl 0 (by decide) rfl flX0_stateCount rfl dX0_columnsOf_13 ?_
    exact xt_iret C hE () hW (by show nI _ = nI _; first | rw [if_pos h2] | rw [if_neg h2]) dX0_columnsOf_16
  · refine lv_aload_n C.1 C.2.1 dX0_columnsOf_5 rfl (lv_at hl 0 rfl) ?_
    refine xt_get xt_inX0 C hW 0 rfl rfl 1 (by decide) rfl flX0_symbolCount rfl dX0_columnsOf_6 ?_
    refine lv_goto C.1 C.2.1 dX0_columnsOf_9 (tgt := 16) (by decide) ?_
    exact xt_iret C hE () hW (by show nI _ = nI _; first | rw [if_pos h2] | rw [if_neg h2]) dX0_columnsOf_16
set_option maxHeartbeats 4000000 in
set_option maxRecDepth 100000 in
theorem cx_hasPlace (l : Launch) (D : va_G) (cI cL : ClassId) (ad : Nat → Nat) (S K n wc dn : Nat) (w lw sy sb sh rw rk dr : Nat → Nat) (q : Int32) (hn6 : n ≤ 6) : xt_M l yX0_hasPlace cX0_hasPlace 2 (some .boolean) 0 D cI cL [.ref (ad 0), .int q] (xX ad cI cL S K n wc dn w lw sy sb sh rw rk dr) (xt_Qi D cI cL (xX ad cI cL S K n wc dn w lw sy sb sh rw rk dr) (fun (r : Int32) (u : Unit) => (r = nI 1 ∧ ∃ z1, z1 < n ∧ q = nI z1) ∨ (r = nI 0 ∧ ¬ ∃ z1, z1 < n ∧ q = nI z1)) (fun u => xX ad cI cL S K n wc dn w lw sy sb sh rw rk dr)) := by
  refine xt_start (own := RX0) rfl (by decide) (Nat.le_of_ble_eq_true rfl) (fun pg ev ss mi args below meth cd A Q ls C hE hA hl hW => ?_)
  replace hl : lv_has ls 2 [(0, .ref (ad 0)), (1, .int q)] := hl
  refine lv_iload_n C.1 C.2.1 dX0_hasPlace_0 rfl (lv_at hl 1 rfl) ?_
  refine lv_if_lt C.1 C.2.1 dX0_hasPlace_1 (tgt := 16) (by decide) (fun h1 => ?_) (fun h1 => ?_)
  · refine xt_iconst C 0 dX0_hasPlace_16 (by decide +kernel) ?_
    exact xt_zret C hE () hW (by first | exact Or.inl rfl | exact Or.inr rfl) (by first | exact Or.inr ⟨rfl, xq_no1 (by omega) h1⟩ | exact Or.inr ⟨rfl, xq_no2 (by omega) h9⟩ | exact Or.inl ⟨rfl, xq_yes (by omega) h1 h9⟩) dX0_hasPlace_17
  · refine lv_iload_n C.1 C.2.1 dX0_hasPlace_4 rfl (lv_at hl 1 rfl) ?_
    refine lv_aload_n C.1 C.2.1 dX0_hasPlace_5 rfl (lv_at hl 0 rfl) ?_
    refine xt_get xt_inX0 C hW 0 rfl rfl 4 (by decide) rfl flX0_seenCount rfl dX0_hasPlace_6 ?_
    refine lv_icmp_ge C.1 C.2.1 dX0_hasPlace_9 (tgt := 16) (by decide) (fun h9 => ?_) (fun h9 => ?_)
    · refine xt_iconst C 0 dX0_hasPlace_16 (by decide +kernel) ?_
      exact xt_zret C hE () hW (by first | exact Or.inl rfl | exact Or.inr rfl) (by first | exact Or.inr ⟨rfl, xq_no1 (by omega) h1⟩ | exact Or.inr ⟨rfl, xq_no2 (by omega) h9⟩ | exact Or.inl ⟨rfl, xq_yes (by omega) h1 h9⟩) dX0_hasPlace_17
    · refine xt_iconst C 1 dX0_hasPlace_12 (by decide +kernel) ?_
      refine lv_goto C.1 C.2.1 dX0_hasPlace_13 (tgt := 17) (by decide) ?_
      exact xt_zret C hE () hW (by first | exact Or.inl rfl | exact Or.inr rfl) (by first | exact Or.inr ⟨rfl, xq_no1 (by omega) h1⟩ | exact Or.inr ⟨rfl, xq_no2 (by omega) h9⟩ | exact Or.inl ⟨rfl, xq_yes (by omega) h1 h9⟩) dX0_hasPlace_17
set_option maxHeartbeats 4000000 in
set_option maxRecDepth 100000 in
theorem cx_hasState (l : Launch) (D : va_G) (cI cL : ClassId) (ad : Nat → Nat) (S K n wc dn : Nat) (w lw sy sb sh rw rk dr : Nat → Nat) (q : Int32) (hS3 : S ≤ 3) : xt_M l yX0_hasState cX0_hasState 2 (some .boolean) 0 D cI cL [.ref (ad 0), .int q] (xX ad cI cL S K n wc dn w lw sy sb sh rw rk dr) (xt_Qi D cI cL (xX ad cI cL S K n wc dn w lw sy sb sh rw rk dr) (fun (r : Int32) (u : Unit) => (r = nI 1 ∧ ∃ z1, z1 < S ∧ q = nI z1) ∨ (r = nI 0 ∧ ¬ ∃ z1, z1 < S ∧ q = nI z1)) (fun u => xX ad cI cL S K n wc dn w lw sy sb sh rw rk dr)) := by
  refine xt_start (own := RX0) rfl (by decide) (Nat.le_of_ble_eq_true rfl) (fun pg ev ss mi args below meth cd A Q ls C hE hA hl hW => ?_)
  replace hl : lv_has ls 2 [(0, .ref (ad 0)), (1, .int q)] := hl
  refine lv_iload_n C.1 C.2.1 dX0_hasState_0 rfl (lv_at hl 1 rfl) ?_
  refine lv_if_lt C.1 C.2.1 dX0_hasState_1 (tgt := 16) (by decide) (fun h1 => ?_) (fun h1 => ?_)
  · refine xt_iconst C 0 dX0_hasState_16 (by decide +kernel) ?_
    exact xt_zret C hE () hW (by first | exact Or.inl rfl | exact Or.inr rfl) (by first | exact Or.inr ⟨rfl, xq_no1 (by omega) h1⟩ | exact Or.inr ⟨rfl, xq_no2 (by omega) h9⟩ | exact Or.inl ⟨rfl, xq_yes (by omega) h1 h9⟩) dX0_hasState_17
  · refine lv_iload_n C.1 C.2.1 dX0_hasState_4 rfl (lv_at hl 1 rfl) ?_
    refine lv_aload_n C.1 C.2.1 dX0_hasState_5 rfl (lv_at hl 0 rfl) ?_
    refine xt_get xt_inX0 C hW 0 rfl rfl 0 (by decide) rfl flX0_stateCount rfl dX0_hasState_6 ?_
    refine lv_icmp_ge C.1 C.2.1 dX0_hasState_9 (tgt := 16) (by decide) (fun h9 => ?_) (fun h9 => ?_)
    · refine xt_iconst C 0 dX0_hasState_16 (by decide +kernel) ?_
      exact xt_zret C hE () hW (by first | exact Or.inl rfl | exact Or.inr rfl) (by first | exact Or.inr ⟨rfl, xq_no1 (by omega) h1⟩ | exact Or.inr ⟨rfl, xq_no2 (by omega) h9⟩ | exact Or.inl ⟨rfl, xq_yes (by omega) h1 h9⟩) dX0_hasState_17
    · refine xt_iconst C 1 dX0_hasState_12 (by decide +kernel) ?_
      refine lv_goto C.1 C.2.1 dX0_hasState_13 (tgt := 17) (by decide) ?_
      exact xt_zret C hE () hW (by first | exact Or.inl rfl | exact Or.inr rfl) (by first | exact Or.inr ⟨rfl, xq_no1 (by omega) h1⟩ | exact Or.inr ⟨rfl, xq_no2 (by omega) h9⟩ | exact Or.inl ⟨rfl, xq_yes (by omega) h1 h9⟩) dX0_hasState_17
set_option maxHeartbeats 4000000 in
set_option maxRecDepth 100000 in
theorem cx_hasRank (l : Launch) (D : va_G) (cI cL : ClassId) (ad : Nat → Nat) (S K n wc dn : Nat) (w lw sy sb sh rw rk dr : Nat → Nat) (q : Int32) (hwc : wc < 2 ^ 30) : xt_M l yX0_hasRank cX0_hasRank 2 (some .boolean) 0 D cI cL [.ref (ad 0), .int q] (xX ad cI cL S K n wc dn w lw sy sb sh rw rk dr) (xt_Qi D cI cL (xX ad cI cL S K n wc dn w lw sy sb sh rw rk dr) (fun (r : Int32) (u : Unit) => (r = nI 1 ∧ ∃ z1, z1 < min wc 12 ∧ q = nI z1) ∨ (r = nI 0 ∧ ¬ ∃ z1, z1 < min wc 12 ∧ q = nI z1)) (fun u => xX ad cI cL S K n wc dn w lw sy sb sh rw rk dr)) := by
  refine xt_start (own := RX0) rfl (by decide) (Nat.le_of_ble_eq_true rfl) (fun pg ev ss mi args below meth cd A Q ls C hE hA hl hW => ?_)
  replace hl : lv_has ls 2 [(0, .ref (ad 0)), (1, .int q)] := hl
  refine lv_iload_n C.1 C.2.1 dX0_hasRank_0 rfl (lv_at hl 1 rfl) ?_
  refine lv_if_lt C.1 C.2.1 dX0_hasRank_1 (tgt := 22) (by decide) (fun h1 => ?_) (fun h1 => ?_)
  · refine xt_iconst C 0 dX0_hasRank_22 (by decide +kernel) ?_
    exact xt_zret C hE () hW (by first | exact Or.inl rfl | exact Or.inr rfl) (by first | exact Or.inr ⟨rfl, xq_no1 (by omega) h1⟩ | exact Or.inr ⟨rfl, xq_rk1 h7⟩ | exact Or.inr ⟨rfl, xq_rk2 hwc h15⟩ | exact Or.inl ⟨rfl, xq_rk3 hwc h1 h7 h15⟩) dX0_hasRank_23
  · refine lv_iload_n C.1 C.2.1 dX0_hasRank_4 rfl (lv_at hl 1 rfl) ?_
    refine xt_bipush C 12 dX0_hasRank_5 (by decide +kernel) ?_
    refine lv_icmp_ge C.1 C.2.1 dX0_hasRank_7 (tgt := 22) (by decide) (fun h7 => ?_) (fun h7 => ?_)
    · refine xt_iconst C 0 dX0_hasRank_22 (by decide +kernel) ?_
      exact xt_zret C hE () hW (by first | exact Or.inl rfl | exact Or.inr rfl) (by first | exact Or.inr ⟨rfl, xq_no1 (by omega) h1⟩ | exact Or.inr ⟨rfl, xq_rk1 h7⟩ | exact Or.inr ⟨rfl, xq_rk2 hwc h15⟩ | exact Or.inl ⟨rfl, xq_rk3 hwc h1 h7 h15⟩) dX0_hasRank_23
    · refine lv_iload_n C.1 C.2.1 dX0_hasRank_10 rfl (lv_at hl 1 rfl) ?_
      refine lv_aload_n C.1 C.2.1 dX0_hasRank_11 rfl (lv_at hl 0 rfl) ?_
      refine xt_get xt_inX0 C hW 0 rfl rfl 8 (by decide) rfl flX0_wayCount rfl dX0_hasRank_12 ?_
      refine lv_icmp_ge C.1 C.2.1 dX0_hasRank_15 (tgt := 22) (by decide) (fun h15 => ?_) (fun h15 => ?_)
      · refine xt_iconst C 0 dX0_hasRank_22 (by decide +kernel) ?_
        exact xt_zret C hE () hW (by first | exact Or.inl rfl | exact Or.inr rfl) (by first | exact Or.inr ⟨rfl, xq_no1 (by omega) h1⟩ | exact Or.inr ⟨rfl, xq_rk1 h7⟩ | exact Or.inr ⟨rfl, xq_rk2 hwc h15⟩ | exact Or.inl ⟨rfl, xq_rk3 hwc h1 h7 h15⟩) dX0_hasRank_23
      · refine xt_iconst C 1 dX0_hasRank_18 (by decide +kernel) ?_
        refine lv_goto C.1 C.2.1 dX0_hasRank_19 (tgt := 23) (by decide) ?_
        exact xt_zret C hE () hW (by first | exact Or.inl rfl | exact Or.inr rfl) (by first | exact Or.inr ⟨rfl, xq_no1 (by omega) h1⟩ | exact Or.inr ⟨rfl, xq_rk1 h7⟩ | exact Or.inr ⟨rfl, xq_rk2 hwc h15⟩ | exact Or.inl ⟨rfl, xq_rk3 hwc h1 h7 h15⟩) dX0_hasRank_23
set_option maxHeartbeats 4000000 in
set_option maxRecDepth 100000 in
theorem cx_hasWeight (l : Launch) (D : va_G) (cI cL : ClassId) (ad : Nat → Nat) (S K n wc dn : Nat) (w lw sy sb sh rw rk dr : Nat → Nat) (kd : Int32) (ro : Int32) (co : Int32) (hS3 : S ≤ 3) (hK4 : K ≤ 4) : xt_M l yX0_hasWeight cX0_hasWeight 4 (some .boolean) 1 D cI cL [.ref (ad 0), .int kd, .int ro, .int co] (xX ad cI cL S K n wc dn w lw sy sb sh rw rk dr) (xt_Qi D cI cL (xX ad cI cL S K n wc dn w lw sy sb sh rw rk dr) (fun (r : Int32) (u : Unit) => (r = nI 1 ∧ ∃ a b c, xt_ok S K kd ro co a b c) ∨ (r = nI 0 ∧ ¬ ∃ a b c, xt_ok S K kd ro co a b c)) (fun u => xX ad cI cL S K n wc dn w lw sy sb sh rw rk dr)) := by
  refine xt_start (own := RX0) rfl (by decide) (Nat.le_of_ble_eq_true rfl) (fun pg ev ss mi args below meth cd A Q ls C hE hA hl hW => ?_)
  replace hl : lv_has ls 4 [(0, .ref (ad 0)), (1, .int kd), (2, .int ro), (3, .int co)] := hl
  refine lv_iload_n C.1 C.2.1 dX0_hasWeight_0 rfl (lv_at hl 2 rfl) ?_
  refine lv_if_lt C.1 C.2.1 dX0_hasWeight_1 (tgt := 30) (by decide) (fun h1 => ?_) (fun h1 => ?_)
  · refine xt_iconst C 0 dX0_hasWeight_30 (by decide +kernel) ?_
    exact xt_zret C hE () hW (by first | exact Or.inl rfl | exact Or.inr rfl) (by first | exact Or.inr ⟨rfl, hx⟩ | exact Or.inl ⟨rfl, xq_oky (a := 0) (m := 1) (n := S) (by omega) (by omega) rfl (fun b c => by omega) h1 h10 h14 h23⟩ | exact Or.inr ⟨rfl, xq_okn (a := 0) (m := 1) (n := S) (by omega) (by omega) (by omega) (by omega) rfl (by omega) (fun b c => by omega) (Or.inr (Or.inl h10))⟩ | exact Or.inr ⟨rfl, xq_okn (a := 0) (m := 1) (n := S) (by omega) (by omega) (by omega) (by omega) rfl (by omega) (fun b c => by omega) (Or.inr (Or.inr (Or.inl h14)))⟩ | exact Or.inr ⟨rfl, xq_okn (a := 0) (m := 1) (n := S) (by omega) (by omega) (by omega) (by omega) rfl (by omega) (fun b c => by omega) (Or.inr (Or.inr (Or.inr h23)))⟩ | exact Or.inl ⟨rfl, xq_oky (a := 1) (m := S) (n := S) (by omega) (by omega) rfl (fun b c => by omega) h1 h10 h14 h23⟩ | exact Or.inr ⟨rfl, xq_okn (a := 1) (m := S) (n := S) (by omega) (by omega) (by omega) (by omega) rfl (by omega) (fun b c => by omega) (Or.inr (Or.inl h10))⟩ | exact Or.inr ⟨rfl, xq_okn (a := 1) (m := S) (n := S) (by omega) (by omega) (by omega) (by omega) rfl (by omega) (fun b c => by omega) (Or.inr (Or.inr (Or.inl h14)))⟩ | exact Or.inr ⟨rfl, xq_okn (a := 1) (m := S) (n := S) (by omega) (by omega) (by omega) (by omega) rfl (by omega) (fun b c => by omega) (Or.inr (Or.inr (Or.inr h23)))⟩ | exact Or.inl ⟨rfl, xq_oky (a := 2) (m := S) (n := K) (by omega) (by omega) rfl (fun b c => by omega) h1 h10 h14 h23⟩ | exact Or.inr ⟨rfl, xq_okn (a := 2) (m := S) (n := K) (by omega) (by omega) (by omega) (by omega) rfl (by omega) (fun b c => by omega) (Or.inr (Or.inl h10))⟩ | exact Or.inr ⟨rfl, xq_okn (a := 2) (m := S) (n := K) (by omega) (by omega) (by omega) (by omega) rfl (by omega) (fun b c => by omega) (Or.inr (Or.inr (Or.inl h14)))⟩ | exact Or.inr ⟨rfl, xq_okn (a := 2) (m := S) (n := K) (by omega) (by omega) (by omega) (by omega) rfl (by omega) (fun b c => by omega) (Or.inr (Or.inr (Or.inr h23)))⟩ | exact Or.inr ⟨rfl, xq_neg1 (by omega) h1⟩) dX0_hasWeight_31
  · refine lv_iload_n C.1 C.2.1 dX0_hasWeight_4 rfl (lv_at hl 2 rfl) ?_
    refine lv_aload_n C.1 C.2.1 dX0_hasWeight_5 rfl (lv_at hl 0 rfl) ?_
    refine lv_iload_n C.1 C.2.1 dX0_hasWeight_6 rfl (lv_at hl 1 rfl) ?_
    refine xt_ci hA hW (xt_runV C hW.1 hW.2.1 cwX0_X0_rowsOf (cx_rowsOf l D cI cL ad S K n wc dn w lw sy sb sh rw rk dr kd) rfl rfl rfl hl.1 (rest := [.int ro]) rfl (Nat.le_of_ble_eq_true rfl) ⟨(Nat.le_of_ble_eq_true rfl), (Nat.le_of_ble_eq_true rfl)⟩ ⟨Nat.zero_le _, Nat.zero_le _⟩ dX0_hasWeight_7) (fun r7 u H locs hp7 hW => ?_)
    replace hW : xt_W D A ss.heap (xX ad cI cL S K n wc dn w lw sy sb sh rw rk dr) H locs := hW
    replace hp7 : (kd = nI 0 ∧ r7 = nI 1) ∨ (kd = nI 1 ∧ r7 = nI S) ∨ (kd = nI 2 ∧ r7 = nI S) ∨ (¬ kd = nI 0 ∧ ¬ kd = nI 1 ∧ ¬ kd = nI 2 ∧ r7 = nI 0) := hp7
    rcases hp7 with ⟨rfl, rfl⟩ | ⟨rfl, rfl⟩ | ⟨rfl, rfl⟩ | ⟨x0, x1, x2, rfl⟩
    · have hkd : nI 0 = nI 0 := rfl
      replace hl : lv_has ls 4 [(0, .ref (ad 0)), (1, .int (nI 0)), (2, .int ro), (3, .int co)] := hl
      refine lv_icmp_ge C.1 C.2.1 dX0_hasWeight_10 (tgt := 30) (by decide) (fun h10 => ?_) (fun h10 => ?_)
      · refine xt_iconst C 0 dX0_hasWeight_30 (by decide +kernel) ?_
        exact xt_zret C hE () hW (by first | exact Or.inl rfl | exact Or.inr rfl) (by first | exact Or.inr ⟨rfl, hx⟩ | exact Or.inl ⟨rfl, xq_oky (a := 0) (m := 1) (n := S) (by omega) (by omega) rfl (fun b c => by omega) h1 h10 h14 h23⟩ | exact Or.inr ⟨rfl, xq_okn (a := 0) (m := 1) (n := S) (by omega) (by omega) (by omega) (by omega) rfl (by omega) (fun b c => by omega) (Or.inr (Or.inl h10))⟩ | exact Or.inr ⟨rfl, xq_okn (a := 0) (m := 1) (n := S) (by omega) (by omega) (by omega) (by omega) rfl (by omega) (fun b c => by omega) (Or.inr (Or.inr (Or.inl h14)))⟩ | exact Or.inr ⟨rfl, xq_okn (a := 0) (m := 1) (n := S) (by omega) (by omega) (by omega) (by omega) rfl (by omega) (fun b c => by omega) (Or.inr (Or.inr (Or.inr h23)))⟩ | exact Or.inl ⟨rfl, xq_oky (a := 1) (m := S) (n := S) (by omega) (by omega) rfl (fun b c => by omega) h1 h10 h14 h23⟩ | exact Or.inr ⟨rfl, xq_okn (a := 1) (m := S) (n := S) (by omega) (by omega) (by omega) (by omega) rfl (by omega) (fun b c => by omega) (Or.inr (Or.inl h10))⟩ | exact Or.inr ⟨rfl, xq_okn (a := 1) (m := S) (n := S) (by omega) (by omega) (by omega) (by omega) rfl (by omega) (fun b c => by omega) (Or.inr (Or.inr (Or.inl h14)))⟩ | exact Or.inr ⟨rfl, xq_okn (a := 1) (m := S) (n := S) (by omega) (by omega) (by omega) (by omega) rfl (by omega) (fun b c => by omega) (Or.inr (Or.inr (Or.inr h23)))⟩ | exact Or.inl ⟨rfl, xq_oky (a := 2) (m := S) (n := K) (by omega) (by omega) rfl (fun b c => by omega) h1 h10 h14 h23⟩ | exact Or.inr ⟨rfl, xq_okn (a := 2) (m := S) (n := K) (by omega) (by omega) (by omega) (by omega) rfl (by omega) (fun b c => by omega) (Or.inr (Or.inl h10))⟩ | exact Or.inr ⟨rfl, xq_okn (a := 2) (m := S) (n := K) (by omega) (by omega) (by omega) (by omega) rfl (by omega) (fun b c => by omega) (Or.inr (Or.inr (Or.inl h14)))⟩ | exact Or.inr ⟨rfl, xq_okn (a := 2) (m := S) (n := K) (by omega) (by omega) (by omega) (by omega) rfl (by omega) (fun b c => by omega) (Or.inr (Or.inr (Or.inr h23)))⟩ | exact Or.inr ⟨rfl, xq_neg1 (by omega) h1⟩) dX0_hasWeight_31
      · refine lv_iload_n C.1 C.2.1 dX0_hasWeight_13 rfl (lv_at hl 3 rfl) ?_
        refine lv_if_lt C.1 C.2.1 dX0_hasWeight_14 (tgt := 30) (by decide) (fun h14 => ?_) (fun h14 => ?_)
        · refine xt_iconst C 0 dX0_hasWeight_30 (by decide +kernel) ?_
          exact xt_zret C hE () hW (by first | exact Or.inl rfl | exact Or.inr rfl) (by first | exact Or.inr ⟨rfl, hx⟩ | exact Or.inl ⟨rfl, xq_oky (a := 0) (m := 1) (n := S) (by omega) (by omega) rfl (fun b c => by omega) h1 h10 h14 h23⟩ | exact Or.inr ⟨rfl, xq_okn (a := 0) (m := 1) (n := S) (by omega) (by omega) (by omega) (by omega) rfl (by omega) (fun b c => by omega) (Or.inr (Or.inl h10))⟩ | exact Or.inr ⟨rfl, xq_okn (a := 0) (m := 1) (n := S) (by omega) (by omega) (by omega) (by omega) rfl (by omega) (fun b c => by omega) (Or.inr (Or.inr (Or.inl h14)))⟩ | exact Or.inr ⟨rfl, xq_okn (a := 0) (m := 1) (n := S) (by omega) (by omega) (by omega) (by omega) rfl (by omega) (fun b c => by omega) (Or.inr (Or.inr (Or.inr h23)))⟩ | exact Or.inl ⟨rfl, xq_oky (a := 1) (m := S) (n := S) (by omega) (by omega) rfl (fun b c => by omega) h1 h10 h14 h23⟩ | exact Or.inr ⟨rfl, xq_okn (a := 1) (m := S) (n := S) (by omega) (by omega) (by omega) (by omega) rfl (by omega) (fun b c => by omega) (Or.inr (Or.inl h10))⟩ | exact Or.inr ⟨rfl, xq_okn (a := 1) (m := S) (n := S) (by omega) (by omega) (by omega) (by omega) rfl (by omega) (fun b c => by omega) (Or.inr (Or.inr (Or.inl h14)))⟩ | exact Or.inr ⟨rfl, xq_okn (a := 1) (m := S) (n := S) (by omega) (by omega) (by omega) (by omega) rfl (by omega) (fun b c => by omega) (Or.inr (Or.inr (Or.inr h23)))⟩ | exact Or.inl ⟨rfl, xq_oky (a := 2) (m := S) (n := K) (by omega) (by omega) rfl (fun b c => by omega) h1 h10 h14 h23⟩ | exact Or.inr ⟨rfl, xq_okn (a := 2) (m := S) (n := K) (by omega) (by omega) (by omega) (by omega) rfl (by omega) (fun b c => by omega) (Or.inr (Or.inl h10))⟩ | exact Or.inr ⟨rfl, xq_okn (a := 2) (m := S) (n := K) (by omega) (by omega) (by omega) (by omega) rfl (by omega) (fun b c => by omega) (Or.inr (Or.inr (Or.inl h14)))⟩ | exact Or.inr ⟨rfl, xq_okn (a := 2) (m := S) (n := K) (by omega) (by omega) (by omega) (by omega) rfl (by omega) (fun b c => by omega) (Or.inr (Or.inr (Or.inr h23)))⟩ | exact Or.inr ⟨rfl, xq_neg1 (by omega) h1⟩) dX0_hasWeight_31
        · refine lv_iload_n C.1 C.2.1 dX0_hasWeight_17 rfl (lv_at hl 3 rfl) ?_
          refine lv_aload_n C.1 C.2.1 dX0_hasWeight_18 rfl (lv_at hl 0 rfl) ?_
          refine lv_iload_n C.1 C.2.1 dX0_hasWeight_19 rfl (lv_at hl 1 rfl) ?_
          refine xt_ci hA hW (xt_runV C hW.1 hW.2.1 cwX0_X0_columnsOf (cx_columnsOf l D cI cL ad S K n wc dn w lw sy sb sh rw rk dr 0 (by omega)) rfl rfl rfl hl.1 (rest := [.int co]) rfl (Nat.le_of_ble_eq_true rfl) ⟨(Nat.le_of_ble_eq_true rfl), (Nat.le_of_ble_eq_true rfl)⟩ ⟨Nat.zero_le _, Nat.zero_le _⟩ dX0_hasWeight_20) (fun r20 u H locs hp20 hW => ?_)
          replace hW : xt_W D A ss.heap (xX ad cI cL S K n wc dn w lw sy sb sh rw rk dr) H locs := hW
          subst hp20
          refine lv_icmp_ge C.1 C.2.1 dX0_hasWeight_23 (tgt := 30) (by decide) (fun h23 => ?_) (fun h23 => ?_)
          · refine xt_iconst C 0 dX0_hasWeight_30 (by decide +kernel) ?_
            exact xt_zret C hE () hW (by first | exact Or.inl rfl | exact Or.inr rfl) (by first | exact Or.inr ⟨rfl, hx⟩ | exact Or.inl ⟨rfl, xq_oky (a := 0) (m := 1) (n := S) (by omega) (by omega) rfl (fun b c => by omega) h1 h10 h14 h23⟩ | exact Or.inr ⟨rfl, xq_okn (a := 0) (m := 1) (n := S) (by omega) (by omega) (by omega) (by omega) rfl (by omega) (fun b c => by omega) (Or.inr (Or.inl h10))⟩ | exact Or.inr ⟨rfl, xq_okn (a := 0) (m := 1) (n := S) (by omega) (by omega) (by omega) (by omega) rfl (by omega) (fun b c => by omega) (Or.inr (Or.inr (Or.inl h14)))⟩ | exact Or.inr ⟨rfl, xq_okn (a := 0) (m := 1) (n := S) (by omega) (by omega) (by omega) (by omega) rfl (by omega) (fun b c => by omega) (Or.inr (Or.inr (Or.inr h23)))⟩ | exact Or.inl ⟨rfl, xq_oky (a := 1) (m := S) (n := S) (by omega) (by omega) rfl (fun b c => by omega) h1 h10 h14 h23⟩ | exact Or.inr ⟨rfl, xq_okn (a := 1) (m := S) (n := S) (by omega) (by omega) (by omega) (by omega) rfl (by omega) (fun b c => by omega) (Or.inr (Or.inl h10))⟩ | exact Or.inr ⟨rfl, xq_okn (a := 1) (m := S) (n := S) (by omega) (by omega) (by omega) (by omega) rfl (by omega) (fun b c => by omega) (Or.inr (Or.inr (Or.inl h14)))⟩ | exact Or.inr ⟨rfl, xq_okn (a := 1) (m := S) (n := S) (by omega) (by omega) (by omega) (by omega) rfl (by omega) (fun b c => by omega) (Or.inr (Or.inr (Or.inr h23)))⟩ | exact Or.inl ⟨rfl, xq_oky (a := 2) (m := S) (n := K) (by omega) (by omega) rfl (fun b c => by omega) h1 h10 h14 h23⟩ | exact Or.inr ⟨rfl, xq_okn (a := 2) (m := S) (n := K) (by omega) (by omega) (by omega) (by omega) rfl (by omega) (fun b c => by omega) (Or.inr (Or.inl h10))⟩ | exact Or.inr ⟨rfl, xq_okn (a := 2) (m := S) (n := K) (by omega) (by omega) (by omega) (by omega) rfl (by omega) (fun b c => by omega) (Or.inr (Or.inr (Or.inl h14)))⟩ | exact Or.inr ⟨rfl, xq_okn (a := 2) (m := S) (n := K) (by omega) (by omega) (by omega) (by omega) rfl (by omega) (fun b c => by omega) (Or.inr (Or.inr (Or.inr h23)))⟩ | exact Or.inr ⟨rfl, xq_neg1 (by omega) h1⟩) dX0_hasWeight_31
          · refine xt_iconst C 1 dX0_hasWeight_26 (by decide +kernel) ?_
            refine lv_goto C.1 C.2.1 dX0_hasWeight_27 (tgt := 31) (by decide) ?_
            exact xt_zret C hE () hW (by first | exact Or.inl rfl | exact Or.inr rfl) (by first | exact Or.inr ⟨rfl, hx⟩ | exact Or.inl ⟨rfl, xq_oky (a := 0) (m := 1) (n := S) (by omega) (by omega) rfl (fun b c => by omega) h1 h10 h14 h23⟩ | exact Or.inr ⟨rfl, xq_okn (a := 0) (m := 1) (n := S) (by omega) (by omega) (by omega) (by omega) rfl (by omega) (fun b c => by omega) (Or.inr (Or.inl h10))⟩ | exact Or.inr ⟨rfl, xq_okn (a := 0) (m := 1) (n := S) (by omega) (by omega) (by omega) (by omega) rfl (by omega) (fun b c => by omega) (Or.inr (Or.inr (Or.inl h14)))⟩ | exact Or.inr ⟨rfl, xq_okn (a := 0) (m := 1) (n := S) (by omega) (by omega) (by omega) (by omega) rfl (by omega) (fun b c => by omega) (Or.inr (Or.inr (Or.inr h23)))⟩ | exact Or.inl ⟨rfl, xq_oky (a := 1) (m := S) (n := S) (by omega) (by omega) rfl (fun b c => by omega) h1 h10 h14 h23⟩ | exact Or.inr ⟨rfl, xq_okn (a := 1) (m := S) (n := S) (by omega) (by omega) (by omega) (by omega) rfl (by omega) (fun b c => by omega) (Or.inr (Or.inl h10))⟩ | exact Or.inr ⟨rfl, xq_okn (a := 1) (m := S) (n := S) (by omega) (by omega) (by omega) (by omega) rfl (by omega) (fun b c => by omega) (Or.inr (Or.inr (Or.inl h14)))⟩ | exact Or.inr ⟨rfl, xq_okn (a := 1) (m := S) (n := S) (by omega) (by omega) (by omega) (by omega) rfl (by omega) (fun b c => by omega) (Or.inr (Or.inr (Or.inr h23)))⟩ | exact Or.inl ⟨rfl, xq_oky (a := 2) (m := S) (n := K) (by omega) (by omega) rfl (fun b c => by omega) h1 h10 h14 h23⟩ | exact Or.inr ⟨rfl, xq_okn (a := 2) (m := S) (n := K) (by omega) (by omega) (by omega) (by omega) rfl (by omega) (fun b c => by omega) (Or.inr (Or.inl h10))⟩ | exact Or.inr ⟨rfl, xq_okn (a := 2) (m := S) (n := K) (by omega) (by omega) (by omega) (by omega) rfl (by omega) (fun b c => by omega) (Or.inr (Or.inr (Or.inl h14)))⟩ | exact Or.inr ⟨rfl, xq_okn (a := 2) (m := S) (n := K) (by omega) (by omega) (by omega) (by omega) rfl (by omega) (fun b c => by omega) (Or.inr (Or.inr (Or.inr h23)))⟩ | exact Or.inr ⟨rfl, xq_neg1 (by omega) h1⟩) dX0_hasWeight_31
    · have hkd : nI 1 = nI 1 := rfl
      replace hl : lv_has ls 4 [(0, .ref (ad 0)), (1, .int (nI 1)), (2, .int ro), (3, .int co)] := hl
      refine lv_icmp_ge C.1 C.2.1 dX0_hasWeight_10 (tgt := 30) (by decide) (fun h10 => ?_) (fun h10 => ?_)
      · refine xt_iconst C 0 dX0_hasWeight_30 (by decide +kernel) ?_
        exact xt_zret C hE () hW (by first | exact Or.inl rfl | exact Or.inr rfl) (by first | exact Or.inr ⟨rfl, hx⟩ | exact Or.inl ⟨rfl, xq_oky (a := 0) (m := 1) (n := S) (by omega) (by omega) rfl (fun b c => by omega) h1 h10 h14 h23⟩ | exact Or.inr ⟨rfl, xq_okn (a := 0) (m := 1) (n := S) (by omega) (by omega) (by omega) (by omega) rfl (by omega) (fun b c => by omega) (Or.inr (Or.inl h10))⟩ | exact Or.inr ⟨rfl, xq_okn (a := 0) (m := 1) (n := S) (by omega) (by omega) (by omega) (by omega) rfl (by omega) (fun b c => by omega) (Or.inr (Or.inr (Or.inl h14)))⟩ | exact Or.inr ⟨rfl, xq_okn (a := 0) (m := 1) (n := S) (by omega) (by omega) (by omega) (by omega) rfl (by omega) (fun b c => by omega) (Or.inr (Or.inr (Or.inr h23)))⟩ | exact Or.inl ⟨rfl, xq_oky (a := 1) (m := S) (n := S) (by omega) (by omega) rfl (fun b c => by omega) h1 h10 h14 h23⟩ | exact Or.inr ⟨rfl, xq_okn (a := 1) (m := S) (n := S) (by omega) (by omega) (by omega) (by omega) rfl (by omega) (fun b c => by omega) (Or.inr (Or.inl h10))⟩ | exact Or.inr ⟨rfl, xq_okn (a := 1) (m := S) (n := S) (by omega) (by omega) (by omega) (by omega) rfl (by omega) (fun b c => by omega) (Or.inr (Or.inr (Or.inl h14)))⟩ | exact Or.inr ⟨rfl, xq_okn (a := 1) (m := S) (n := S) (by omega) (by omega) (by omega) (by omega) rfl (by omega) (fun b c => by omega) (Or.inr (Or.inr (Or.inr h23)))⟩ | exact Or.inl ⟨rfl, xq_oky (a := 2) (m := S) (n := K) (by omega) (by omega) rfl (fun b c => by omega) h1 h10 h14 h23⟩ | exact Or.inr ⟨rfl, xq_okn (a := 2) (m := S) (n := K) (by omega) (by omega) (by omega) (by omega) rfl (by omega) (fun b c => by omega) (Or.inr (Or.inl h10))⟩ | exact Or.inr ⟨rfl, xq_okn (a := 2) (m := S) (n := K) (by omega) (by omega) (by omega) (by omega) rfl (by omega) (fun b c => by omega) (Or.inr (Or.inr (Or.inl h14)))⟩ | exact Or.inr ⟨rfl, xq_okn (a := 2) (m := S) (n := K) (by omega) (by omega) (by omega) (by omega) rfl (by omega) (fun b c => by omega) (Or.inr (Or.inr (Or.inr h23)))⟩ | exact Or.inr ⟨rfl, xq_neg1 (by omega) h1⟩) dX0_hasWeight_31
      · refine lv_iload_n C.1 C.2.1 dX0_hasWeight_13 rfl (lv_at hl 3 rfl) ?_
        refine lv_if_lt C.1 C.2.1 dX0_hasWeight_14 (tgt := 30) (by decide) (fun h14 => ?_) (fun h14 => ?_)
        · refine xt_iconst C 0 dX0_hasWeight_30 (by decide +kernel) ?_
          exact xt_zret C hE () hW (by first | exact Or.inl rfl | exact Or.inr rfl) (by first | exact Or.inr ⟨rfl, hx⟩ | exact Or.inl ⟨rfl, xq_oky (a := 0) (m := 1) (n := S) (by omega) (by omega) rfl (fun b c => by omega) h1 h10 h14 h23⟩ | exact Or.inr ⟨rfl, xq_okn (a := 0) (m := 1) (n := S) (by omega) (by omega) (by omega) (by omega) rfl (by omega) (fun b c => by omega) (Or.inr (Or.inl h10))⟩ | exact Or.inr ⟨rfl, xq_okn (a := 0) (m := 1) (n := S) (by omega) (by omega) (by omega) (by omega) rfl (by omega) (fun b c => by omega) (Or.inr (Or.inr (Or.inl h14)))⟩ | exact Or.inr ⟨rfl, xq_okn (a := 0) (m := 1) (n := S) (by omega) (by omega) (by omega) (by omega) rfl (by omega) (fun b c => by omega) (Or.inr (Or.inr (Or.inr h23)))⟩ | exact Or.inl ⟨rfl, xq_oky (a := 1) (m := S) (n := S) (by omega) (by omega) rfl (fun b c => by omega) h1 h10 h14 h23⟩ | exact Or.inr ⟨rfl, xq_okn (a := 1) (m := S) (n := S) (by omega) (by omega) (by omega) (by omega) rfl (by omega) (fun b c => by omega) (Or.inr (Or.inl h10))⟩ | exact Or.inr ⟨rfl, xq_okn (a := 1) (m := S) (n := S) (by omega) (by omega) (by omega) (by omega) rfl (by omega) (fun b c => by omega) (Or.inr (Or.inr (Or.inl h14)))⟩ | exact Or.inr ⟨rfl, xq_okn (a := 1) (m := S) (n := S) (by omega) (by omega) (by omega) (by omega) rfl (by omega) (fun b c => by omega) (Or.inr (Or.inr (Or.inr h23)))⟩ | exact Or.inl ⟨rfl, xq_oky (a := 2) (m := S) (n := K) (by omega) (by omega) rfl (fun b c => by omega) h1 h10 h14 h23⟩ | exact Or.inr ⟨rfl, xq_okn (a := 2) (m := S) (n := K) (by omega) (by omega) (by omega) (by omega) rfl (by omega) (fun b c => by omega) (Or.inr (Or.inl h10))⟩ | exact Or.inr ⟨rfl, xq_okn (a := 2) (m := S) (n := K) (by omega) (by omega) (by omega) (by omega) rfl (by omega) (fun b c => by omega) (Or.inr (Or.inr (Or.inl h14)))⟩ | exact Or.inr ⟨rfl, xq_okn (a := 2) (m := S) (n := K) (by omega) (by omega) (by omega) (by omega) rfl (by omega) (fun b c => by omega) (Or.inr (Or.inr (Or.inr h23)))⟩ | exact Or.inr ⟨rfl, xq_neg1 (by omega) h1⟩) dX0_hasWeight_31
        · refine lv_iload_n C.1 C.2.1 dX0_hasWeight_17 rfl (lv_at hl 3 rfl) ?_
          refine lv_aload_n C.1 C.2.1 dX0_hasWeight_18 rfl (lv_at hl 0 rfl) ?_
          refine lv_iload_n C.1 C.2.1 dX0_hasWeight_19 rfl (lv_at hl 1 rfl) ?_
          refine xt_ci hA hW (xt_runV C hW.1 hW.2.1 cwX0_X0_columnsOf (cx_columnsOf l D cI cL ad S K n wc dn w lw sy sb sh rw rk dr 1 (by omega)) rfl rfl rfl hl.1 (rest := [.int co]) rfl (Nat.le_of_ble_eq_true rfl) ⟨(Nat.le_of_ble_eq_true rfl), (Nat.le_of_ble_eq_true rfl)⟩ ⟨Nat.zero_le _, Nat.zero_le _⟩ dX0_hasWeight_20) (fun r20 u H locs hp20 hW => ?_)
          replace hW : xt_W D A ss.heap (xX ad cI cL S K n wc dn w lw sy sb sh rw rk dr) H locs := hW
          subst hp20
          refine lv_icmp_ge C.1 C.2.1 dX0_hasWeight_23 (tgt := 30) (by decide) (fun h23 => ?_) (fun h23 => ?_)
          · refine xt_iconst C 0 dX0_hasWeight_30 (by decide +kernel) ?_
            exact xt_zret C hE () hW (by first | exact Or.inl rfl | exact Or.inr rfl) (by first | exact Or.inr ⟨rfl, hx⟩ | exact Or.inl ⟨rfl, xq_oky (a := 0) (m := 1) (n := S) (by omega) (by omega) rfl (fun b c => by omega) h1 h10 h14 h23⟩ | exact Or.inr ⟨rfl, xq_okn (a := 0) (m := 1) (n := S) (by omega) (by omega) (by omega) (by omega) rfl (by omega) (fun b c => by omega) (Or.inr (Or.inl h10))⟩ | exact Or.inr ⟨rfl, xq_okn (a := 0) (m := 1) (n := S) (by omega) (by omega) (by omega) (by omega) rfl (by omega) (fun b c => by omega) (Or.inr (Or.inr (Or.inl h14)))⟩ | exact Or.inr ⟨rfl, xq_okn (a := 0) (m := 1) (n := S) (by omega) (by omega) (by omega) (by omega) rfl (by omega) (fun b c => by omega) (Or.inr (Or.inr (Or.inr h23)))⟩ | exact Or.inl ⟨rfl, xq_oky (a := 1) (m := S) (n := S) (by omega) (by omega) rfl (fun b c => by omega) h1 h10 h14 h23⟩ | exact Or.inr ⟨rfl, xq_okn (a := 1) (m := S) (n := S) (by omega) (by omega) (by omega) (by omega) rfl (by omega) (fun b c => by omega) (Or.inr (Or.inl h10))⟩ | exact Or.inr ⟨rfl, xq_okn (a := 1) (m := S) (n := S) (by omega) (by omega) (by omega) (by omega) rfl (by omega) (fun b c => by omega) (Or.inr (Or.inr (Or.inl h14)))⟩ | exact Or.inr ⟨rfl, xq_okn (a := 1) (m := S) (n := S) (by omega) (by omega) (by omega) (by omega) rfl (by omega) (fun b c => by omega) (Or.inr (Or.inr (Or.inr h23)))⟩ | exact Or.inl ⟨rfl, xq_oky (a := 2) (m := S) (n := K) (by omega) (by omega) rfl (fun b c => by omega) h1 h10 h14 h23⟩ | exact Or.inr ⟨rfl, xq_okn (a := 2) (m := S) (n := K) (by omega) (by omega) (by omega) (by omega) rfl (by omega) (fun b c => by omega) (Or.inr (Or.inl h10))⟩ | exact Or.inr ⟨rfl, xq_okn (a := 2) (m := S) (n := K) (by omega) (by omega) (by omega) (by omega) rfl (by omega) (fun b c => by omega) (Or.inr (Or.inr (Or.inl h14)))⟩ | exact Or.inr ⟨rfl, xq_okn (a := 2) (m := S) (n := K) (by omega) (by omega) (by omega) (by omega) rfl (by omega) (fun b c => by omega) (Or.inr (Or.inr (Or.inr h23)))⟩ | exact Or.inr ⟨rfl, xq_neg1 (by omega) h1⟩) dX0_hasWeight_31
          · refine xt_iconst C 1 dX0_hasWeight_26 (by decide +kernel) ?_
            refine lv_goto C.1 C.2.1 dX0_hasWeight_27 (tgt := 31) (by decide) ?_
            exact xt_zret C hE () hW (by first | exact Or.inl rfl | exact Or.inr rfl) (by first | exact Or.inr ⟨rfl, hx⟩ | exact Or.inl ⟨rfl, xq_oky (a := 0) (m := 1) (n := S) (by omega) (by omega) rfl (fun b c => by omega) h1 h10 h14 h23⟩ | exact Or.inr ⟨rfl, xq_okn (a := 0) (m := 1) (n := S) (by omega) (by omega) (by omega) (by omega) rfl (by omega) (fun b c => by omega) (Or.inr (Or.inl h10))⟩ | exact Or.inr ⟨rfl, xq_okn (a := 0) (m := 1) (n := S) (by omega) (by omega) (by omega) (by omega) rfl (by omega) (fun b c => by omega) (Or.inr (Or.inr (Or.inl h14)))⟩ | exact Or.inr ⟨rfl, xq_okn (a := 0) (m := 1) (n := S) (by omega) (by omega) (by omega) (by omega) rfl (by omega) (fun b c => by omega) (Or.inr (Or.inr (Or.inr h23)))⟩ | exact Or.inl ⟨rfl, xq_oky (a := 1) (m := S) (n := S) (by omega) (by omega) rfl (fun b c => by omega) h1 h10 h14 h23⟩ | exact Or.inr ⟨rfl, xq_okn (a := 1) (m := S) (n := S) (by omega) (by omega) (by omega) (by omega) rfl (by omega) (fun b c => by omega) (Or.inr (Or.inl h10))⟩ | exact Or.inr ⟨rfl, xq_okn (a := 1) (m := S) (n := S) (by omega) (by omega) (by omega) (by omega) rfl (by omega) (fun b c => by omega) (Or.inr (Or.inr (Or.inl h14)))⟩ | exact Or.inr ⟨rfl, xq_okn (a := 1) (m := S) (n := S) (by omega) (by omega) (by omega) (by omega) rfl (by omega) (fun b c => by omega) (Or.inr (Or.inr (Or.inr h23)))⟩ | exact Or.inl ⟨rfl, xq_oky (a := 2) (m := S) (n := K) (by omega) (by omega) rfl (fun b c => by omega) h1 h10 h14 h23⟩ | exact Or.inr ⟨rfl, xq_okn (a := 2) (m := S) (n := K) (by omega) (by omega) (by omega) (by omega) rfl (by omega) (fun b c => by omega) (Or.inr (Or.inl h10))⟩ | exact Or.inr ⟨rfl, xq_okn (a := 2) (m := S) (n := K) (by omega) (by omega) (by omega) (by omega) rfl (by omega) (fun b c => by omega) (Or.inr (Or.inr (Or.inl h14)))⟩ | exact Or.inr ⟨rfl, xq_okn (a := 2) (m := S) (n := K) (by omega) (by omega) (by omega) (by omega) rfl (by omega) (fun b c => by omega) (Or.inr (Or.inr (Or.inr h23)))⟩ | exact Or.inr ⟨rfl, xq_neg1 (by omega) h1⟩) dX0_hasWeight_31
    · have hkd : nI 2 = nI 2 := rfl
      replace hl : lv_has ls 4 [(0, .ref (ad 0)), (1, .int (nI 2)), (2, .int ro), (3, .int co)] := hl
      refine lv_icmp_ge C.1 C.2.1 dX0_hasWeight_10 (tgt := 30) (by decide) (fun h10 => ?_) (fun h10 => ?_)
      · refine xt_iconst C 0 dX0_hasWeight_30 (by decide +kernel) ?_
        exact xt_zret C hE () hW (by first | exact Or.inl rfl | exact Or.inr rfl) (by first | exact Or.inr ⟨rfl, hx⟩ | exact Or.inl ⟨rfl, xq_oky (a := 0) (m := 1) (n := S) (by omega) (by omega) rfl (fun b c => by omega) h1 h10 h14 h23⟩ | exact Or.inr ⟨rfl, xq_okn (a := 0) (m := 1) (n := S) (by omega) (by omega) (by omega) (by omega) rfl (by omega) (fun b c => by omega) (Or.inr (Or.inl h10))⟩ | exact Or.inr ⟨rfl, xq_okn (a := 0) (m := 1) (n := S) (by omega) (by omega) (by omega) (by omega) rfl (by omega) (fun b c => by omega) (Or.inr (Or.inr (Or.inl h14)))⟩ | exact Or.inr ⟨rfl, xq_okn (a := 0) (m := 1) (n := S) (by omega) (by omega) (by omega) (by omega) rfl (by omega) (fun b c => by omega) (Or.inr (Or.inr (Or.inr h23)))⟩ | exact Or.inl ⟨rfl, xq_oky (a := 1) (m := S) (n := S) (by omega) (by omega) rfl (fun b c => by omega) h1 h10 h14 h23⟩ | exact Or.inr ⟨rfl, xq_okn (a := 1) (m := S) (n := S) (by omega) (by omega) (by omega) (by omega) rfl (by omega) (fun b c => by omega) (Or.inr (Or.inl h10))⟩ | exact Or.inr ⟨rfl, xq_okn (a := 1) (m := S) (n := S) (by omega) (by omega) (by omega) (by omega) rfl (by omega) (fun b c => by omega) (Or.inr (Or.inr (Or.inl h14)))⟩ | exact Or.inr ⟨rfl, xq_okn (a := 1) (m := S) (n := S) (by omega) (by omega) (by omega) (by omega) rfl (by omega) (fun b c => by omega) (Or.inr (Or.inr (Or.inr h23)))⟩ | exact Or.inl ⟨rfl, xq_oky (a := 2) (m := S) (n := K) (by omega) (by omega) rfl (fun b c => by omega) h1 h10 h14 h23⟩ | exact Or.inr ⟨rfl, xq_okn (a := 2) (m := S) (n := K) (by omega) (by omega) (by omega) (by omega) rfl (by omega) (fun b c => by omega) (Or.inr (Or.inl h10))⟩ | exact Or.inr ⟨rfl, xq_okn (a := 2) (m := S) (n := K) (by omega) (by omega) (by omega) (by omega) rfl (by omega) (fun b c => by omega) (Or.inr (Or.inr (Or.inl h14)))⟩ | exact Or.inr ⟨rfl, xq_okn (a := 2) (m := S) (n := K) (by omega) (by omega) (by omega) (by omega) rfl (by omega) (fun b c => by omega) (Or.inr (Or.inr (Or.inr h23)))⟩ | exact Or.inr ⟨rfl, xq_neg1 (by omega) h1⟩) dX0_hasWeight_31
      · refine lv_iload_n C.1 C.2.1 dX0_hasWeight_13 rfl (lv_at hl 3 rfl) ?_
        refine lv_if_lt C.1 C.2.1 dX0_hasWeight_14 (tgt := 30) (by decide) (fun h14 => ?_) (fun h14 => ?_)
        · refine xt_iconst C 0 dX0_hasWeight_30 (by decide +kernel) ?_
          exact xt_zret C hE () hW (by first | exact Or.inl rfl | exact Or.inr rfl) (by first | exact Or.inr ⟨rfl, hx⟩ | exact Or.inl ⟨rfl, xq_oky (a := 0) (m := 1) (n := S) (by omega) (by omega) rfl (fun b c => by omega) h1 h10 h14 h23⟩ | exact Or.inr ⟨rfl, xq_okn (a := 0) (m := 1) (n := S) (by omega) (by omega) (by omega) (by omega) rfl (by omega) (fun b c => by omega) (Or.inr (Or.inl h10))⟩ | exact Or.inr ⟨rfl, xq_okn (a := 0) (m := 1) (n := S) (by omega) (by omega) (by omega) (by omega) rfl (by omega) (fun b c => by omega) (Or.inr (Or.inr (Or.inl h14)))⟩ | exact Or.inr ⟨rfl, xq_okn (a := 0) (m := 1) (n := S) (by omega) (by omega) (by omega) (by omega) rfl (by omega) (fun b c => by omega) (Or.inr (Or.inr (Or.inr h23)))⟩ | exact Or.inl ⟨rfl, xq_oky (a := 1) (m := S) (n := S) (by omega) (by omega) rfl (fun b c => by omega) h1 h10 h14 h23⟩ | exact Or.inr ⟨rfl, xq_okn (a := 1) (m := S) (n := S) (by omega) (by omega) (by omega) (by omega) rfl (by omega) (fun b c => by omega) (Or.inr (Or.inl h10))⟩ | exact Or.inr ⟨rfl, xq_okn (a := 1) (m := S) (n := S) (by omega) (by omega) (by omega) (by omega) rfl (by omega) (fun b c => by omega) (Or.inr (Or.inr (Or.inl h14)))⟩ | exact Or.inr ⟨rfl, xq_okn (a := 1) (m := S) (n := S) (by omega) (by omega) (by omega) (by omega) rfl (by omega) (fun b c => by omega) (Or.inr (Or.inr (Or.inr h23)))⟩ | exact Or.inl ⟨rfl, xq_oky (a := 2) (m := S) (n := K) (by omega) (by omega) rfl (fun b c => by omega) h1 h10 h14 h23⟩ | exact Or.inr ⟨rfl, xq_okn (a := 2) (m := S) (n := K) (by omega) (by omega) (by omega) (by omega) rfl (by omega) (fun b c => by omega) (Or.inr (Or.inl h10))⟩ | exact Or.inr ⟨rfl, xq_okn (a := 2) (m := S) (n := K) (by omega) (by omega) (by omega) (by omega) rfl (by omega) (fun b c => by omega) (Or.inr (Or.inr (Or.inl h14)))⟩ | exact Or.inr ⟨rfl, xq_okn (a := 2) (m := S) (n := K) (by omega) (by omega) (by omega) (by omega) rfl (by omega) (fun b c => by omega) (Or.inr (Or.inr (Or.inr h23)))⟩ | exact Or.inr ⟨rfl, xq_neg1 (by omega) h1⟩) dX0_hasWeight_31
        · refine lv_iload_n C.1 C.2.1 dX0_hasWeight_17 rfl (lv_at hl 3 rfl) ?_
          refine lv_aload_n C.1 C.2.1 dX0_hasWeight_18 rfl (lv_at hl 0 rfl) ?_
          refine lv_iload_n C.1 C.2.1 dX0_hasWeight_19 rfl (lv_at hl 1 rfl) ?_
          refine xt_ci hA hW (xt_runV C hW.1 hW.2.1 cwX0_X0_columnsOf (cx_columnsOf l D cI cL ad S K n wc dn w lw sy sb sh rw rk dr 2 (by omega)) rfl rfl rfl hl.1 (rest := [.int co]) rfl (Nat.le_of_ble_eq_true rfl) ⟨(Nat.le_of_ble_eq_true rfl), (Nat.le_of_ble_eq_true rfl)⟩ ⟨Nat.zero_le _, Nat.zero_le _⟩ dX0_hasWeight_20) (fun r20 u H locs hp20 hW => ?_)
          replace hW : xt_W D A ss.heap (xX ad cI cL S K n wc dn w lw sy sb sh rw rk dr) H locs := hW
          subst hp20
          refine lv_icmp_ge C.1 C.2.1 dX0_hasWeight_23 (tgt := 30) (by decide) (fun h23 => ?_) (fun h23 => ?_)
          · refine xt_iconst C 0 dX0_hasWeight_30 (by decide +kernel) ?_
            exact xt_zret C hE () hW (by first | exact Or.inl rfl | exact Or.inr rfl) (by first | exact Or.inr ⟨rfl, hx⟩ | exact Or.inl ⟨rfl, xq_oky (a := 0) (m := 1) (n := S) (by omega) (by omega) rfl (fun b c => by omega) h1 h10 h14 h23⟩ | exact Or.inr ⟨rfl, xq_okn (a := 0) (m := 1) (n := S) (by omega) (by omega) (by omega) (by omega) rfl (by omega) (fun b c => by omega) (Or.inr (Or.inl h10))⟩ | exact Or.inr ⟨rfl, xq_okn (a := 0) (m := 1) (n := S) (by omega) (by omega) (by omega) (by omega) rfl (by omega) (fun b c => by omega) (Or.inr (Or.inr (Or.inl h14)))⟩ | exact Or.inr ⟨rfl, xq_okn (a := 0) (m := 1) (n := S) (by omega) (by omega) (by omega) (by omega) rfl (by omega) (fun b c => by omega) (Or.inr (Or.inr (Or.inr h23)))⟩ | exact Or.inl ⟨rfl, xq_oky (a := 1) (m := S) (n := S) (by omega) (by omega) rfl (fun b c => by omega) h1 h10 h14 h23⟩ | exact Or.inr ⟨rfl, xq_okn (a := 1) (m := S) (n := S) (by omega) (by omega) (by omega) (by omega) rfl (by omega) (fun b c => by omega) (Or.inr (Or.inl h10))⟩ | exact Or.inr ⟨rfl, xq_okn (a := 1) (m := S) (n := S) (by omega) (by omega) (by omega) (by omega) rfl (by omega) (fun b c => by omega) (Or.inr (Or.inr (Or.inl h14)))⟩ | exact Or.inr ⟨rfl, xq_okn (a := 1) (m := S) (n := S) (by omega) (by omega) (by omega) (by omega) rfl (by omega) (fun b c => by omega) (Or.inr (Or.inr (Or.inr h23)))⟩ | exact Or.inl ⟨rfl, xq_oky (a := 2) (m := S) (n := K) (by omega) (by omega) rfl (fun b c => by omega) h1 h10 h14 h23⟩ | exact Or.inr ⟨rfl, xq_okn (a := 2) (m := S) (n := K) (by omega) (by omega) (by omega) (by omega) rfl (by omega) (fun b c => by omega) (Or.inr (Or.inl h10))⟩ | exact Or.inr ⟨rfl, xq_okn (a := 2) (m := S) (n := K) (by omega) (by omega) (by omega) (by omega) rfl (by omega) (fun b c => by omega) (Or.inr (Or.inr (Or.inl h14)))⟩ | exact Or.inr ⟨rfl, xq_okn (a := 2) (m := S) (n := K) (by omega) (by omega) (by omega) (by omega) rfl (by omega) (fun b c => by omega) (Or.inr (Or.inr (Or.inr h23)))⟩ | exact Or.inr ⟨rfl, xq_neg1 (by omega) h1⟩) dX0_hasWeight_31
          · refine xt_iconst C 1 dX0_hasWeight_26 (by decide +kernel) ?_
            refine lv_goto C.1 C.2.1 dX0_hasWeight_27 (tgt := 31) (by decide) ?_
            exact xt_zret C hE () hW (by first | exact Or.inl rfl | exact Or.inr rfl) (by first | exact Or.inr ⟨rfl, hx⟩ | exact Or.inl ⟨rfl, xq_oky (a := 0) (m := 1) (n := S) (by omega) (by omega) rfl (fun b c => by omega) h1 h10 h14 h23⟩ | exact Or.inr ⟨rfl, xq_okn (a := 0) (m := 1) (n := S) (by omega) (by omega) (by omega) (by omega) rfl (by omega) (fun b c => by omega) (Or.inr (Or.inl h10))⟩ | exact Or.inr ⟨rfl, xq_okn (a := 0) (m := 1) (n := S) (by omega) (by omega) (by omega) (by omega) rfl (by omega) (fun b c => by omega) (Or.inr (Or.inr (Or.inl h14)))⟩ | exact Or.inr ⟨rfl, xq_okn (a := 0) (m := 1) (n := S) (by omega) (by omega) (by omega) (by omega) rfl (by omega) (fun b c => by omega) (Or.inr (Or.inr (Or.inr h23)))⟩ | exact Or.inl ⟨rfl, xq_oky (a := 1) (m := S) (n := S) (by omega) (by omega) rfl (fun b c => by omega) h1 h10 h14 h23⟩ | exact Or.inr ⟨rfl, xq_okn (a := 1) (m := S) (n := S) (by omega) (by omega) (by omega) (by omega) rfl (by omega) (fun b c => by omega) (Or.inr (Or.inl h10))⟩ | exact Or.inr ⟨rfl, xq_okn (a := 1) (m := S) (n := S) (by omega) (by omega) (by omega) (by omega) rfl (by omega) (fun b c => by omega) (Or.inr (Or.inr (Or.inl h14)))⟩ | exact Or.inr ⟨rfl, xq_okn (a := 1) (m := S) (n := S) (by omega) (by omega) (by omega) (by omega) rfl (by omega) (fun b c => by omega) (Or.inr (Or.inr (Or.inr h23)))⟩ | exact Or.inl ⟨rfl, xq_oky (a := 2) (m := S) (n := K) (by omega) (by omega) rfl (fun b c => by omega) h1 h10 h14 h23⟩ | exact Or.inr ⟨rfl, xq_okn (a := 2) (m := S) (n := K) (by omega) (by omega) (by omega) (by omega) rfl (by omega) (fun b c => by omega) (Or.inr (Or.inl h10))⟩ | exact Or.inr ⟨rfl, xq_okn (a := 2) (m := S) (n := K) (by omega) (by omega) (by omega) (by omega) rfl (by omega) (fun b c => by omega) (Or.inr (Or.inr (Or.inl h14)))⟩ | exact Or.inr ⟨rfl, xq_okn (a := 2) (m := S) (n := K) (by omega) (by omega) (by omega) (by omega) rfl (by omega) (fun b c => by omega) (Or.inr (Or.inr (Or.inr h23)))⟩ | exact Or.inr ⟨rfl, xq_neg1 (by omega) h1⟩) dX0_hasWeight_31
    · have hx := xq_okx (S := S) (K := K) (ro := ro) (co := co) x0 x1 x2
      replace hl : lv_has ls 4 [(0, .ref (ad 0)), (1, .int kd), (2, .int ro), (3, .int co)] := hl
      refine lv_icmp_ge C.1 C.2.1 dX0_hasWeight_10 (tgt := 30) (by decide) (fun h10 => ?_) (fun h10 => ?_)
      · refine xt_iconst C 0 dX0_hasWeight_30 (by decide +kernel) ?_
        exact xt_zret C hE () hW (by first | exact Or.inl rfl | exact Or.inr rfl) (by first | exact Or.inr ⟨rfl, hx⟩ | exact Or.inl ⟨rfl, xq_oky (a := 0) (m := 1) (n := S) (by omega) (by omega) rfl (fun b c => by omega) h1 h10 h14 h23⟩ | exact Or.inr ⟨rfl, xq_okn (a := 0) (m := 1) (n := S) (by omega) (by omega) (by omega) (by omega) rfl (by omega) (fun b c => by omega) (Or.inr (Or.inl h10))⟩ | exact Or.inr ⟨rfl, xq_okn (a := 0) (m := 1) (n := S) (by omega) (by omega) (by omega) (by omega) rfl (by omega) (fun b c => by omega) (Or.inr (Or.inr (Or.inl h14)))⟩ | exact Or.inr ⟨rfl, xq_okn (a := 0) (m := 1) (n := S) (by omega) (by omega) (by omega) (by omega) rfl (by omega) (fun b c => by omega) (Or.inr (Or.inr (Or.inr h23)))⟩ | exact Or.inl ⟨rfl, xq_oky (a := 1) (m := S) (n := S) (by omega) (by omega) rfl (fun b c => by omega) h1 h10 h14 h23⟩ | exact Or.inr ⟨rfl, xq_okn (a := 1) (m := S) (n := S) (by omega) (by omega) (by omega) (by omega) rfl (by omega) (fun b c => by omega) (Or.inr (Or.inl h10))⟩ | exact Or.inr ⟨rfl, xq_okn (a := 1) (m := S) (n := S) (by omega) (by omega) (by omega) (by omega) rfl (by omega) (fun b c => by omega) (Or.inr (Or.inr (Or.inl h14)))⟩ | exact Or.inr ⟨rfl, xq_okn (a := 1) (m := S) (n := S) (by omega) (by omega) (by omega) (by omega) rfl (by omega) (fun b c => by omega) (Or.inr (Or.inr (Or.inr h23)))⟩ | exact Or.inl ⟨rfl, xq_oky (a := 2) (m := S) (n := K) (by omega) (by omega) rfl (fun b c => by omega) h1 h10 h14 h23⟩ | exact Or.inr ⟨rfl, xq_okn (a := 2) (m := S) (n := K) (by omega) (by omega) (by omega) (by omega) rfl (by omega) (fun b c => by omega) (Or.inr (Or.inl h10))⟩ | exact Or.inr ⟨rfl, xq_okn (a := 2) (m := S) (n := K) (by omega) (by omega) (by omega) (by omega) rfl (by omega) (fun b c => by omega) (Or.inr (Or.inr (Or.inl h14)))⟩ | exact Or.inr ⟨rfl, xq_okn (a := 2) (m := S) (n := K) (by omega) (by omega) (by omega) (by omega) rfl (by omega) (fun b c => by omega) (Or.inr (Or.inr (Or.inr h23)))⟩ | exact Or.inr ⟨rfl, xq_neg1 (by omega) h1⟩) dX0_hasWeight_31
      · exfalso
        exact h10 (by rw [nI_0]; exact Int32.not_lt.mp h1)
