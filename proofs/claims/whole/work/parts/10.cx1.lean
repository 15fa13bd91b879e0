/-- the class's cells: its object, its eight rows -/
def xX (ad : Nat → Nat) (cI cL : ClassId) (S K n wc dn : Nat) (w lw sy sb sh rw rk dr : Nat → Nat) : va_W :=
  [(ad 0, .inr (0, [.int (nI S), .int (nI K), .ref (ad 1), .ref (ad 2), .int (nI n), .ref (ad 3), .ref (ad 4), .ref (ad 5), .int (nI wc), .ref (ad 6), .ref (ad 7), .int (nI dn), .ref (ad 8)])),
   (ad 1, xt_i cI 36 w), (ad 2, xt_i cI 36 lw), (ad 3, xt_i cI 6 sy), (ad 4, xt_l cL 18 sb), (ad 5, xt_l cL 18 sh), (ad 6, xt_l cL 12 rw), (ad 7, xt_i cI 12 rk), (ad 8, xt_i cI 6 dr)]
set_option maxHeartbeats 4000000 in
set_option maxRecDepth 100000 in
theorem cx_cell (l : Launch) (D : va_G) (cI cL : ClassId) (ws : va_W) (a : Nat) (b : Nat) : xt_M l yX0_cell cX0_cell 2 (some .int) 0 D cI cL [.int (nI a), .int (nI b)] (ws) (xt_Qi D cI cL (ws) (fun (r : Int32) (u : Unit) => r = nI (a * 3 + b)) (fun u => ws)) := by
  refine xt_start (own := RX0) rfl (by decide) (Nat.le_of_ble_eq_true rfl) (fun pg ev ss mi args below meth cd A Q ls C hE hA hl hW => ?_)
  replace hl : lv_has ls 2 [(0, .int (nI a)), (1, .int (nI b))] := hl
  refine lv_iload_n C.1 C.2.1 dX0_cell_0 rfl (lv_at hl 0 rfl) ?_
  refine xt_iconst C 3 dX0_cell_1 (by decide +kernel) ?_
  refine xt_imul C dX0_cell_2 ?_
  refine lv_iload_n C.1 C.2.1 dX0_cell_3 rfl (lv_at hl 1 rfl) ?_
  refine xt_iadd C dX0_cell_4 ?_
  exact xt_iret C hE () hW (rfl) dX0_cell_5
set_option maxHeartbeats 4000000 in
set_option maxRecDepth 100000 in
theorem cx_slot (l : Launch) (D : va_G) (cI cL : ClassId) (ws : va_W) (a : Nat) (b : Nat) (k : Nat) : xt_M l yX0_slot cX0_slot 3 (some .int) 0 D cI cL [.int (nI a), .int (nI b), .int (nI k)] (ws) (xt_Qi D cI cL (ws) (fun (r : Int32) (u : Unit) => r = nI ((a * 3 + b) * 4 + k)) (fun u => ws)) := by
  refine xt_start (own := RX0) rfl (by decide) (Nat.le_of_ble_eq_true rfl) (fun pg ev ss mi args below meth cd A Q ls C hE hA hl hW => ?_)
  replace hl : lv_has ls 3 [(0, .int (nI a)), (1, .int (nI b)), (2, .int (nI k))] := hl
  refine lv_iload_n C.1 C.2.1 dX0_slot_0 rfl (lv_at hl 0 rfl) ?_
  refine xt_iconst C 3 dX0_slot_1 (by decide +kernel) ?_
  refine xt_imul C dX0_slot_2 ?_
  refine lv_iload_n C.1 C.2.1 dX0_slot_3 rfl (lv_at hl 1 rfl) ?_
  refine xt_iadd C dX0_slot_4 ?_
  refine xt_iconst C 4 dX0_slot_5 (by decide +kernel) ?_
  refine xt_imul C dX0_slot_6 ?_
  refine lv_iload_n C.1 C.2.1 dX0_slot_7 rfl (lv_at hl 2 rfl) ?_
  refine xt_iadd C dX0_slot_8 ?_
  exact xt_iret C hE () hW (rfl) dX0_slot_9
set_option maxHeartbeats 4000000 in
set_option maxRecDepth 100000 in
theorem cx_entry (l : Launch) (D : va_G) (cI cL : ClassId) (ad : Nat → Nat) (S K n wc dn : Nat) (w lw sy sb sh rw rk dr : Nat → Nat) (p : Nat) (f : Nat) (t : Nat) (hp6 : p < 6) (hf3 : f < 3) (ht3 : t < 3) (hw : ∀ i, i < 36 → w i ≤ 9) (hs4 : sy p < 4) : xt_M l yX0_entry cX0_entry 5 (some .long) 1 D cI cL [.ref (ad 0), .int (nI p), .int (nI f), .int (nI t)] (xX ad cI cL S K n wc dn w lw sy sb sh rw rk dr) (xt_Ql D cI cL (xX ad cI cL S K n wc dn w lw sy sb sh rw rk dr) (fun (r : Int64) (u : Unit) => r = lN (xe w sy p f t)) (fun u => xX ad cI cL S K n wc dn w lw sy sb sh rw rk dr)) := by
  refine xt_start (own := RX0) rfl (by decide) (Nat.le_of_ble_eq_true rfl) (fun pg ev ss mi args below meth cd A Q ls C hE hA hl hW => ?_)
  replace hl : lv_has ls 5 [(0, .ref (ad 0)), (1, .int (nI p)), (2, .int (nI f)), (3, .int (nI t))] := hl
  have hwl : ∀ i, i < 36 → w i < 2 ^ 31 := fun i h => Nat.lt_of_le_of_lt (hw i h) (by decide)
  refine lv_iload_n C.1 C.2.1 dX0_entry_0 rfl (lv_at hl 1 rfl) ?_
  refine xt_if_ne C (by omega) dX0_entry_1 (tgt := 18) (by decide) (fun h1 => ?_) (fun h1 => ?_)
  · refine lv_aload_n C.1 C.2.1 dX0_entry_18 rfl (lv_at hl 0 rfl) ?_
    refine xt_get xt_inX0 C hW 0 rfl rfl 2 (by decide) rfl flX0_weights rfl dX0_entry_19 ?_
    refine xt_iconst C 1 dX0_entry_22 (by decide +kernel) ?_
    refine lv_iload_n C.1 C.2.1 dX0_entry_23 rfl (lv_at hl 2 rfl) ?_
    refine lv_iload_n C.1 C.2.1 dX0_entry_24 rfl (lv_at hl 3 rfl) ?_
    refine xt_ci hA hW (xt_runS C hW.1 hW.2.1 cwX0_X0_slot (cx_slot l D cI cL (xX ad cI cL S K n wc dn w lw sy sb sh rw rk dr) 1 f t) rfl hl.1 (rest := [.ref (ad 1)]) rfl (Nat.le_of_ble_eq_true rfl) ⟨(Nat.le_of_ble_eq_true rfl), (Nat.le_of_ble_eq_true rfl)⟩ ⟨Nat.zero_le _, Nat.zero_le _⟩ dX0_entry_25) (fun r25 u H locs hp25 hW => ?_)
    replace hW : xt_W D A ss.heap (xX ad cI cL S K n wc dn w lw sy sb sh rw rk dr) H locs := hW
    subst hp25
    refine xt_iald C hW 1 rfl (by decide) dX0_entry_28 (by omega) ?_
    refine lv_istore C.1 C.2.1 dX0_entry_29 hl (by decide) rfl (fun ls hl => ?_)
    replace hl : lv_has ls 5 [(4, .int (nI (w ((1 * 3 + f) * 4 + t)))), (0, .ref (ad 0)), (1, .int (nI p)), (2, .int (nI f)), (3, .int (nI t))] := hl
    refine lv_iload C.1 C.2.1 dX0_entry_31 (lv_at hl 0 rfl) ?_
    refine xt_i2l C dX0_entry_33 (hwl _ (by omega)) ?_
    refine lv_aload_n C.1 C.2.1 dX0_entry_34 rfl (lv_at hl 1 rfl) ?_
    refine xt_get xt_inX0 C hW 0 rfl rfl 2 (by decide) rfl flX0_weights rfl dX0_entry_35 ?_
    refine W.eq (g2 := F0 mi 38 ls [.ref (ad 1), .long (lN (w ((1 * 3 + f) * 4 + t)))]) rfl ?_
    refine xt_iconst C 2 dX0_entry_38 (by decide +kernel) ?_
    refine lv_iload_n C.1 C.2.1 dX0_entry_39 rfl (lv_at hl 4 rfl) ?_
    refine lv_aload_n C.1 C.2.1 dX0_entry_40 rfl (lv_at hl 1 rfl) ?_
    refine xt_get xt_inX0 C hW 0 rfl rfl 5 (by decide) rfl flX0_seenSymbols rfl dX0_entry_41 ?_
    refine lv_iload_n C.1 C.2.1 dX0_entry_44 rfl (lv_at hl 2 rfl) ?_
    refine xt_iald C hW 3 rfl (by decide) dX0_entry_45 (by omega) ?_
    refine xt_ci hA hW (xt_runS C hW.1 hW.2.1 cwX0_X0_slot (cx_slot l D cI cL (xX ad cI cL S K n wc dn w lw sy sb sh rw rk dr) 2 t (sy p)) rfl hl.1 (rest := [.ref (ad 1), .long (lN (w ((1 * 3 + f) * 4 + t)))]) rfl (Nat.le_of_ble_eq_true rfl) ⟨(Nat.le_of_ble_eq_true rfl), (Nat.le_of_ble_eq_true rfl)⟩ ⟨Nat.zero_le _, Nat.zero_le _⟩ dX0_entry_46) (fun r46 u H locs hp46 hW => ?_)
    replace hW : xt_W D A ss.heap (xX ad cI cL S K n wc dn w lw sy sb sh rw rk dr) H locs := hW
    subst hp46
    refine xt_iald C hW 1 rfl (by decide) dX0_entry_49 (by omega) ?_
    refine xt_i2l C dX0_entry_50 (hwl _ (by omega)) ?_
    refine xt_lmul C dX0_entry_51 ?_
    exact xt_lret C hE () hW (by show lN (_ * _) = lN (xe w sy p f t); unfold xe; first | rw [if_pos h1] | rw [if_neg h1]) dX0_entry_52
  · refine lv_aload_n C.1 C.2.1 dX0_entry_4 rfl (lv_at hl 0 rfl) ?_
    refine xt_get xt_inX0 C hW 0 rfl rfl 2 (by decide) rfl flX0_weights rfl dX0_entry_5 ?_
    refine xt_iconst C 0 dX0_entry_8 (by decide +kernel) ?_
    refine xt_iconst C 0 dX0_entry_9 (by decide +kernel) ?_
    refine lv_iload_n C.1 C.2.1 dX0_entry_10 rfl (lv_at hl 3 rfl) ?_
    refine xt_ci hA hW (xt_runS C hW.1 hW.2.1 cwX0_X0_slot (cx_slot l D cI cL (xX ad cI cL S K n wc dn w lw sy sb sh rw rk dr) 0 0 t) rfl hl.1 (rest := [.ref (ad 1)]) rfl (Nat.le_of_ble_eq_true rfl) ⟨(Nat.le_of_ble_eq_true rfl), (Nat.le_of_ble_eq_true rfl)⟩ ⟨Nat.zero_le _, Nat.zero_le _⟩ dX0_entry_11) (fun r11 u H locs hp11 hW => ?_)
    replace hW : xt_W D A ss.heap (xX ad cI cL S K n wc dn w lw sy sb sh rw rk dr) H locs := hW
    subst hp11
    refine xt_iald C hW 1 rfl (by decide) dX0_entry_14 (by omega) ?_
    refine lv_goto C.1 C.2.1 dX0_entry_15 (tgt := 29) (by decide) ?_
    refine lv_istore C.1 C.2.1 dX0_entry_29 hl (by decide) rfl (fun ls hl => ?_)
    replace hl : lv_has ls 5 [(4, .int (nI (w ((0 * 3 + 0) * 4 + t)))), (0, .ref (ad 0)), (1, .int (nI p)), (2, .int (nI f)), (3, .int (nI t))] := hl
    refine lv_iload C.1 C.2.1 dX0_entry_31 (lv_at hl 0 rfl) ?_
    refine xt_i2l C dX0_entry_33 (hwl _ (by omega)) ?_
    refine lv_aload_n C.1 C.2.1 dX0_entry_34 rfl (lv_at hl 1 rfl) ?_
    refine W.eq (g2 := F0 mi 35 ls [.ref (ad 0), .long (lN (w ((0 * 3 + 0) * 4 + t)))]) rfl ?_
    refine xt_get xt_inX0 C hW 0 rfl rfl 2 (by decide) rfl flX0_weights rfl dX0_entry_35 ?_
    refine xt_iconst C 2 dX0_entry_38 (by decide +kernel) ?_
    refine lv_iload_n C.1 C.2.1 dX0_entry_39 rfl (lv_at hl 4 rfl) ?_
    refine lv_aload_n C.1 C.2.1 dX0_entry_40 rfl (lv_at hl 1 rfl) ?_
    refine xt_get xt_inX0 C hW 0 rfl rfl 5 (by decide) rfl flX0_seenSymbols rfl dX0_entry_41 ?_
    refine lv_iload_n C.1 C.2.1 dX0_entry_44 rfl (lv_at hl 2 rfl) ?_
    refine xt_iald C hW 3 rfl (by decide) dX0_entry_45 (by omega) ?_
    refine xt_ci hA hW (xt_runS C hW.1 hW.2.1 cwX0_X0_slot (cx_slot l D cI cL (xX ad cI cL S K n wc dn w lw sy sb sh rw rk dr) 2 t (sy p)) rfl hl.1 (rest := [.ref (ad 1), .long (lN (w ((0 * 3 + 0) * 4 + t)))]) rfl (Nat.le_of_ble_eq_true rfl) ⟨(Nat.le_of_ble_eq_true rfl), (Nat.le_of_ble_eq_true rfl)⟩ ⟨Nat.zero_le _, Nat.zero_le _⟩ dX0_entry_46) (fun r46 u H locs hp46 hW => ?_)
    replace hW : xt_W D A ss.heap (xX ad cI cL S K n wc dn w lw sy sb sh rw rk dr) H locs := hW
    subst hp46
    refine xt_iald C hW 1 rfl (by decide) dX0_entry_49 (by omega) ?_
    refine xt_i2l C dX0_entry_50 (hwl _ (by omega)) ?_
    refine xt_lmul C dX0_entry_51 ?_
    exact xt_lret C hE () hW (by show lN (_ * _) = lN (xe w sy p f t); unfold xe; first | rw [if_pos h1] | rw [if_neg h1]) dX0_entry_52
set_option maxHeartbeats 4000000 in
set_option maxRecDepth 100000 in
theorem cx_sumInto (l : Launch) (D : va_G) (cI cL : ClassId) (ad : Nat → Nat) (S K n wc dn : Nat) (w lw sy sb sh rw rk dr : Nat → Nat) (p : Nat) (t : Nat) (hp1 : 1 ≤ p) (hp6 : p < 6) (ht3 : t < 3) (hS3 : S ≤ 3) (hw : ∀ i, i < 36 → w i ≤ 9) (hs4 : sy p < 4) : xt_M l yX0_sumInto cX0_sumInto 6 (some .long) 2 D cI cL [.ref (ad 0), .int (nI p), .int (nI t)] (xX ad cI cL S K n wc dn w lw sy sb sh rw rk dr) (xt_Ql D cI cL (xX ad cI cL S K n wc dn w lw sy sb sh rw rk dr) (fun (r : Int64) (u : Unit) => r = lN (ms_sum (fun z1 => sb ((p - 1) * 3 + z1) * xe w sy p z1 t) S)) (fun u => xX ad cI cL S K n wc dn w lw sy sb sh rw rk dr)) := by
  refine xt_start (own := RX0) rfl (by decide) (Nat.le_of_ble_eq_true rfl) (fun pg ev ss mi args below meth cd A Q ls C hE hA hl hW => ?_)
  replace hl : lv_has ls 6 [(0, .ref (ad 0)), (1, .int (nI p)), (2, .int (nI t))] := hl
  refine xt_lconst C 0 dX0_sumInto_0 (by decide +kernel) ?_
  refine lv_lstore_n C.1 C.2.1 dX0_sumInto_1 rfl hl (by decide) rfl (fun ls hl => ?_)
  replace hl : lv_has ls 6 [(3, .long (lN 0)), (0, .ref (ad 0)), (1, .int (nI p)), (2, .int (nI t))] := hl
  refine xt_iconst C 0 dX0_sumInto_2 (by decide +kernel) ?_
  refine lv_istore C.1 C.2.1 dX0_sumInto_3 hl (by decide) rfl (fun ls hl => ?_)
  replace hl : lv_has ls 6 [(5, .int (nI 0)), (3, .long (lN 0)), (0, .ref (ad 0)), (1, .int (nI p)), (2, .int (nI t))] := hl
  have lp5 : ∀ (q : Nat) (i : Nat), S - i = q → (i ≤ S) → ∀ (ls : Array Slot) (H : Heap) (locs : List Loc), lv_has ls 6 [(5, .int (nI i)), (3, .long (lN (ms_sum (fun z1 => sb ((p - 1) * 3 + z1) * xe w sy p z1 t) i))), (0, .ref (ad 0)), (1, .int (nI p)), (2, .int (nI t))] → xt_W D A ss.heap (xX ad cI cL S K n wc dn w lw sy sb sh rw rk dr) H locs → W pg l ev (xt_R 2) ss mi args below meth cd H locs 0 0 Q (F0 mi 5 ls []) := by
    intro q
    induction q using Nat.strongRecOn with
    | _ q ih5 =>
      intro i hq5 hi ls H locs hl hW
      refine lv_iload C.1 C.2.1 dX0_sumInto_5 (lv_at hl 0 rfl) ?_
      refine lv_aload_n C.1 C.2.1 dX0_sumInto_7 rfl (lv_at hl 2 rfl) ?_
      refine xt_get xt_inX0 C hW 0 rfl rfl 0 (by decide) rfl flX0_stateCount rfl dX0_sumInto_8 ?_
      refine xt_icmp_ge C (by omega) (by omega) dX0_sumInto_11 (tgt := 45) (by decide) (fun h11 => ?_) (fun h11 => ?_)
      · refine lv_lload_n C.1 C.2.1 dX0_sumInto_45 rfl (lv_at hl 1 rfl) ?_
        exact xt_lret C hE () hW (by show lN (ms_sum _ i) = lN (ms_sum _ S); rw [show i = S by omega]) dX0_sumInto_46
      · refine lv_lload_n C.1 C.2.1 dX0_sumInto_14 rfl (lv_at hl 1 rfl) ?_
        refine lv_aload_n C.1 C.2.1 dX0_sumInto_15 rfl (lv_at hl 2 rfl) ?_
        refine xt_get xt_inX0 C hW 0 rfl rfl 6 (by decide) rfl flX0_sumsBefore rfl dX0_sumInto_16 ?_
        refine lv_iload_n C.1 C.2.1 dX0_sumInto_19 rfl (lv_at hl 3 rfl) ?_
        refine xt_iconst C 1 dX0_sumInto_20 (by decide +kernel) ?_
        refine xt_isub C dX0_sumInto_21 (by omega) ?_
        refine lv_iload C.1 C.2.1 dX0_sumInto_22 (lv_at hl 0 rfl) ?_
        refine xt_ci hA hW (xt_runS C hW.1 hW.2.1 cwX0_X0_cell (cx_cell l D cI cL (xX ad cI cL S K n wc dn w lw sy sb sh rw rk dr) (p - 1) i) rfl hl.1 (rest := [.ref (ad 4), .long (lN (ms_sum (fun z1 => sb ((p - 1) * 3 + z1) * xe w sy p z1 t) i))]) rfl (Nat.le_of_ble_eq_true rfl) ⟨(Nat.le_of_ble_eq_true rfl), (Nat.le_of_ble_eq_true rfl)⟩ ⟨Nat.zero_le _, Nat.zero_le _⟩ dX0_sumInto_24) (fun r24 u H locs hp24 hW => ?_)
        replace hW : xt_W D A ss.heap (xX ad cI cL S K n wc dn w lw sy sb sh rw rk dr) H locs := hW
        subst hp24
        refine xt_lald C hW 4 rfl (by decide) dX0_sumInto_27 (by omega) ?_
        refine lv_aload_n C.1 C.2.1 dX0_sumInto_28 rfl (lv_at hl 2 rfl) ?_
        refine lv_iload_n C.1 C.2.1 dX0_sumInto_29 rfl (lv_at hl 3 rfl) ?_
        refine lv_iload C.1 C.2.1 dX0_sumInto_30 (lv_at hl 0 rfl) ?_
        refine W.eq (g2 := F0 mi 32 ls [.int (nI i), .int (nI p), .ref (ad 0), .long (lN (sb ((p - 1) * 3 + i))), .long (lN (ms_sum (fun z1 => sb ((p - 1) * 3 + z1) * xe w sy p z1 t) i))]) rfl ?_
        refine lv_iload_n C.1 C.2.1 dX0_sumInto_32 rfl (lv_at hl 4 rfl) ?_
        refine xt_cl hA hW (xt_runV C hW.1 hW.2.1 cwX0_X0_entry (cx_entry l D cI cL ad S K n wc dn w lw sy sb sh rw rk dr p i t (by omega) (by omega) (by omega) (hw) (hs4)) rfl rfl rfl hl.1 (rest := [.long (lN (sb ((p - 1) * 3 + i))), .long (lN (ms_sum (fun z1 => sb ((p - 1) * 3 + z1) * xe w sy p z1 t) i))]) rfl (Nat.le_of_ble_eq_true rfl) ⟨(Nat.le_of_ble_eq_true rfl), (Nat.le_of_ble_eq_true rfl)⟩ ⟨Nat.zero_le _, Nat.zero_le _⟩ dX0_sumInto_33) (fun r33 u H locs hp33 hW => ?_)
        replace hW : xt_W D A ss.heap (xX ad cI cL S K n wc dn w lw sy sb sh rw rk dr) H locs := hW
        subst hp33
        refine xt_lmul C dX0_sumInto_36 ?_
        refine xt_ladd C dX0_sumInto_37 ?_
        refine lv_lstore_n C.1 C.2.1 dX0_sumInto_38 rfl hl (by decide) rfl (fun ls hl => ?_)
        replace hl : lv_has ls 6 [(3, .long (lN ((ms_sum (fun z1 => sb ((p - 1) * 3 + z1) * xe w sy p z1 t) i) + ((sb ((p - 1) * 3 + i)) * (xe w sy p i t))))), (5, .int (nI i)), (0, .ref (ad 0)), (1, .int (nI p)), (2, .int (nI t))] := hl
        refine lv_iinc (k := 1) C.1 C.2.1 dX0_sumInto_39 hl rfl xt_inc (by decide) rfl (fun ls hl => ?_)
        replace hl : lv_has ls 6 [(5, .int (nI (i + 1))), (3, .long (lN ((ms_sum (fun z1 => sb ((p - 1) * 3 + z1) * xe w sy p z1 t) i) + ((sb ((p - 1) * 3 + i)) * (xe w sy p i t))))), (0, .ref (ad 0)), (1, .int (nI p)), (2, .int (nI t))] := hl
        refine lv_goto C.1 C.2.1 dX0_sumInto_42 (tgt := 5) (by decide) ?_
        exact ih5 _ (by omega) (i + 1) rfl (by omega) ls _ _ (lv_sub hl [0, 1, 2, 3, 4] rfl) hW
  exact lp5 _ 0 rfl (Nat.zero_le _) ls _ _ (lv_sub hl [0, 1, 2, 3, 4] rfl) hW
set_option maxHeartbeats 4000000 in
set_option maxRecDepth 100000 in
theorem cx_sumOutOf (l : Launch) (D : va_G) (cI cL : ClassId) (ad : Nat → Nat) (S K n wc dn : Nat) (w lw sy sb sh rw rk dr : Nat → Nat) (p : Nat) (f : Nat) (hp6 : p + 1 < 6) (hf3 : f < 3) (hS3 : S ≤ 3) (hw : ∀ i, i < 36 → w i ≤ 9) (hs4 : sy (p + 1) < 4) : xt_M l yX0_sumOutOf cX0_sumOutOf 6 (some .long) 2 D cI cL [.ref (ad 0), .int (nI p), .int (nI f)] (xX ad cI cL S K n wc dn w lw sy sb sh rw rk dr) (xt_Ql D cI cL (xX ad cI cL S K n wc dn w lw sy sb sh rw rk dr) (fun (r : Int64) (u : Unit) => r = lN (ms_sum (fun z1 => xe w sy (p + 1) f z1 * sh ((p + 1) * 3 + z1)) S)) (fun u => xX ad cI cL S K n wc dn w lw sy sb sh rw rk dr)) := by
  refine xt_start (own := RX0) rfl (by decide) (Nat.le_of_ble_eq_true rfl) (fun pg ev ss mi args below meth cd A Q ls C hE hA hl hW => ?_)
  replace hl : lv_has ls 6 [(0, .ref (ad 0)), (1, .int (nI p)), (2, .int (nI f))] := hl
  refine xt_lconst C 0 dX0_sumOutOf_0 (by decide +kernel) ?_
  refine lv_lstore_n C.1 C.2.1 dX0_sumOutOf_1 rfl hl (by decide) rfl (fun ls hl => ?_)
  replace hl : lv_has ls 6 [(3, .long (lN 0)), (0, .ref (ad 0)), (1, .int (nI p)), (2, .int (nI f))] := hl
  refine xt_iconst C 0 dX0_sumOutOf_2 (by decide +kernel) ?_
  refine lv_istore C.1 C.2.1 dX0_sumOutOf_3 hl (by decide) rfl (fun ls hl => ?_)
  replace hl : lv_has ls 6 [(5, .int (nI 0)), (3, .long (lN 0)), (0, .ref (ad 0)), (1, .int (nI p)), (2, .int (nI f))] := hl
  have lp5 : ∀ (q : Nat) (i : Nat), S - i = q → (i ≤ S) → ∀ (ls : Array Slot) (H : Heap) (locs : List Loc), lv_has ls 6 [(5, .int (nI i)), (3, .long (lN (ms_sum (fun z1 => xe w sy (p + 1) f z1 * sh ((p + 1) * 3 + z1)) i))), (0, .ref (ad 0)), (1, .int (nI p)), (2, .int (nI f))] → xt_W D A ss.heap (xX ad cI cL S K n wc dn w lw sy sb sh rw rk dr) H locs → W pg l ev (xt_R 2) ss mi args below meth cd H locs 0 0 Q (F0 mi 5 ls []) := by
    intro q
    induction q using Nat.strongRecOn with
    | _ q ih5 =>
      intro i hq5 hi ls H locs hl hW
      refine lv_iload C.1 C.2.1 dX0_sumOutOf_5 (lv_at hl 0 rfl) ?_
      refine lv_aload_n C.1 C.2.1 dX0_sumOutOf_7 rfl (lv_at hl 2 rfl) ?_
      refine xt_get xt_inX0 C hW 0 rfl rfl 0 (by decide) rfl flX0_stateCount rfl dX0_sumOutOf_8 ?_
      refine xt_icmp_ge C (by omega) (by omega) dX0_sumOutOf_11 (tgt := 47) (by decide) (fun h11 => ?_) (fun h11 => ?_)
      · refine lv_lload_n C.1 C.2.1 dX0_sumOutOf_47 rfl (lv_at hl 1 rfl) ?_
        exact xt_lret C hE () hW (by show lN (ms_sum _ i) = lN (ms_sum _ S); rw [show i = S by omega]) dX0_sumOutOf_48
      · refine lv_lload_n C.1 C.2.1 dX0_sumOutOf_14 rfl (lv_at hl 1 rfl) ?_
        refine lv_aload_n C.1 C.2.1 dX0_sumOutOf_15 rfl (lv_at hl 2 rfl) ?_
        refine lv_iload_n C.1 C.2.1 dX0_sumOutOf_16 rfl (lv_at hl 3 rfl) ?_
        refine xt_iconst C 1 dX0_sumOutOf_17 (by decide +kernel) ?_
        refine xt_iadd C dX0_sumOutOf_18 ?_
        refine lv_iload_n C.1 C.2.1 dX0_sumOutOf_19 rfl (lv_at hl 4 rfl) ?_
        refine lv_iload C.1 C.2.1 dX0_sumOutOf_20 (lv_at hl 0 rfl) ?_
        refine xt_cl hA hW (xt_runV C hW.1 hW.2.1 cwX0_X0_entry (cx_entry l D cI cL ad S K n wc dn w lw sy sb sh rw rk dr (p + 1) f i (by omega) (by omega) (by omega) (hw) (hs4)) rfl rfl rfl hl.1 (rest := [.long (lN (ms_sum (fun z1 => xe w sy (p + 1) f z1 * sh ((p + 1) * 3 + z1)) i))]) rfl (Nat.le_of_ble_eq_true rfl) ⟨(Nat.le_of_ble_eq_true rfl), (Nat.le_of_ble_eq_true rfl)⟩ ⟨Nat.zero_le _, Nat.zero_le _⟩ dX0_sumOutOf_22) (fun r22 u H locs hp22 hW => ?_)
        replace hW : xt_W D A ss.heap (xX ad cI cL S K n wc dn w lw sy sb sh rw rk dr) H locs := hW
        subst hp22
        refine lv_aload_n C.1 C.2.1 dX0_sumOutOf_25 rfl (lv_at hl 2 rfl) ?_
        refine xt_get xt_inX0 C hW 0 rfl rfl 7 (by decide) rfl flX0_sumsBehind rfl dX0_sumOutOf_26 ?_
        refine lv_iload_n C.1 C.2.1 dX0_sumOutOf_29 rfl (lv_at hl 3 rfl) ?_
        refine xt_iconst C 1 dX0_sumOutOf_30 (by decide +kernel) ?_
        refine W.eq (g2 := F0 mi 31 ls [.int (nI 1), .int (nI p), .ref (ad 5), .long (lN (xe w sy (p + 1) f i)), .long (lN (ms_sum (fun z1 => xe w sy (p + 1) f z1 * sh ((p + 1) * 3 + z1)) i))]) rfl ?_
        refine xt_iadd C dX0_sumOutOf_31 ?_
        refine lv_iload C.1 C.2.1 dX0_sumOutOf_32 (lv_at hl 0 rfl) ?_
        refine xt_ci hA hW (xt_runS C hW.1 hW.2.1 cwX0_X0_cell (cx_cell l D cI cL (xX ad cI cL S K n wc dn w lw sy sb sh rw rk dr) (p + 1) i) rfl hl.1 (rest := [.ref (ad 5), .long (lN (xe w sy (p + 1) f i)), .long (lN (ms_sum (fun z1 => xe w sy (p + 1) f z1 * sh ((p + 1) * 3 + z1)) i))]) rfl (Nat.le_of_ble_eq_true rfl) ⟨(Nat.le_of_ble_eq_true rfl), (Nat.le_of_ble_eq_true rfl)⟩ ⟨Nat.zero_le _, Nat.zero_le _⟩ dX0_sumOutOf_34) (fun r34 u H locs hp34 hW => ?_)
        replace hW : xt_W D A ss.heap (xX ad cI cL S K n wc dn w lw sy sb sh rw rk dr) H locs := hW
        subst hp34
        refine xt_lald C hW 5 rfl (by decide) dX0_sumOutOf_37 (by omega) ?_
        refine xt_lmul C dX0_sumOutOf_38 ?_
        refine xt_ladd C dX0_sumOutOf_39 ?_
        refine lv_lstore_n C.1 C.2.1 dX0_sumOutOf_40 rfl hl (by decide) rfl (fun ls hl => ?_)
        replace hl : lv_has ls 6 [(3, .long (lN ((ms_sum (fun z1 => xe w sy (p + 1) f z1 * sh ((p + 1) * 3 + z1)) i) + ((xe w sy (p + 1) f i) * (sh ((p + 1) * 3 + i)))))), (5, .int (nI i)), (0, .ref (ad 0)), (1, .int (nI p)), (2, .int (nI f))] := hl
        refine lv_iinc (k := 1) C.1 C.2.1 dX0_sumOutOf_41 hl rfl xt_inc (by decide) rfl (fun ls hl => ?_)
        replace hl : lv_has ls 6 [(5, .int (nI (i + 1))), (3, .long (lN ((ms_sum (fun z1 => xe w sy (p + 1) f z1 * sh ((p + 1) * 3 + z1)) i) + ((xe w sy (p + 1) f i) * (sh ((p + 1) * 3 + i)))))), (0, .ref (ad 0)), (1, .int (nI p)), (2, .int (nI f))] := hl
        refine lv_goto C.1 C.2.1 dX0_sumOutOf_44 (tgt := 5) (by decide) ?_
        exact ih5 _ (by omega) (i + 1) rfl (by omega) ls _ _ (lv_sub hl [0, 1, 2, 3, 4] rfl) hW
  exact lp5 _ 0 rfl (Nat.zero_le _) ls _ _ (lv_sub hl [0, 1, 2, 3, 4] rfl) hW
