theorem xq_up {α : Type} {f : Nat → α} {k : Nat} {v : α} : va_up f k v k = v := if_pos rfl
theorem xq_un {α : Type} {f : Nat → α} {k j : Nat} {v : α} (h : j ≠ k) : va_up f k v j = f j := if_neg h
theorem xq_bf {sv w sy : Nat → Nat} {S a b v : Nat} (hS : S ≤ 3) (hb : b < S) (h : ∀ q t, (q < a ∨ (q = a ∧ t < b)) → t < S → sv (q * 3 + t) = ms_bf (xe w sy) S q t) (hv : v = ms_bf (xe w sy) S a b) :
    ∀ q t, (q < a ∨ (q = a ∧ t < b + 1)) → t < S → va_up sv (a * 3 + b) v (q * 3 + t) = ms_bf (xe w sy) S q t := by
  intro q t hq ht
  by_cases e : q = a ∧ t = b
  · obtain ⟨rfl, rfl⟩ := e
    rw [xq_up, hv]
  · rw [xq_un (by omega)]
    exact h q t (by omega) ht
theorem xq_into {sv w sy : Nat → Nat} {S a b : Nat} (ha : a ≠ 0) (h : ∀ q t, (q < a ∨ (q = a ∧ t < b)) → t < S → sv (q * 3 + t) = ms_bf (xe w sy) S q t) :
    ms_sum (fun z1 => sv ((a - 1) * 3 + z1) * xe w sy a z1 b) S = ms_bf (xe w sy) S a b := by
  obtain ⟨c, rfl⟩ : ∃ c, a = c + 1 := ⟨a - 1, by omega⟩
  show _ = ms_sum (fun t => ms_bf (xe w sy) S c t * xe w sy (c + 1) t b) S
  refine ms_sum_congr (fun z hz => ?_)
  rw [Nat.add_sub_cancel, h c z (by omega) hz]
theorem xq_bh {sv w sy : Nat → Nat} {S n a b v : Nat} (hS : S ≤ 3) (hb : b < S) (ha : 0 < a) (h : ∀ q t, (a ≤ q ∨ (q + 1 = a ∧ t < b)) → q < n → t < S → sv (q * 3 + t) = ms_bh (xe w sy) S n (n - 1 - q) t) (hv : v = ms_bh (xe w sy) S n (n - 1 - (a - 1)) b) :
    ∀ q t, (a ≤ q ∨ (q + 1 = a ∧ t < b + 1)) → q < n → t < S → va_up sv ((a - 1) * 3 + b) v (q * 3 + t) = ms_bh (xe w sy) S n (n - 1 - q) t := by
  intro q t hq hn ht
  by_cases e : q + 1 = a ∧ t = b
  · obtain ⟨e1, rfl⟩ := e
    have e2 : q = a - 1 := by omega
    subst e2
    rw [xq_up, hv]
  · rw [xq_un (by omega)]
    exact h q t (by omega) hn ht
theorem xq_out {sv w sy : Nat → Nat} {S n a b : Nat} (ha : 0 < a) (han : a - 1 ≠ n - 1) (hn : a ≤ n) (h : ∀ q t, (a ≤ q ∨ (q + 1 = a ∧ t < b)) → q < n → t < S → sv (q * 3 + t) = ms_bh (xe w sy) S n (n - 1 - q) t) :
    ms_sum (fun z1 => xe w sy (a - 1 + 1) b z1 * sv ((a - 1 + 1) * 3 + z1)) S = ms_bh (xe w sy) S n (n - 1 - (a - 1)) b := by
  have e1 : a - 1 + 1 = a := by omega
  have e2 : n - 1 - (a - 1) = (n - 1 - a) + 1 := by omega
  have e3 : n - 1 - (n - 1 - a) = a := by omega
  rw [e1, e2]
  show _ = ms_sum (fun t => xe w sy (n - 1 - (n - 1 - a)) b t * ms_bh (xe w sy) S n (n - 1 - a) t) S
  rw [e3]
  exact ms_sum_congr (fun z hz => by rw [h a z (by omega) (by omega) hz])
set_option maxHeartbeats 4000000 in
set_option maxRecDepth 100000 in
theorem cx_sumBefore (l : Launch) (D : va_G) (cI cL : ClassId) (ad : Nat → Nat) (S K n wc dn : Nat) (w lw sy sb sh rw rk dr : Nat → Nat) (hn6 : n ≤ 6) (hS3 : S ≤ 3) (hS0 : 0 < S) (hw : ∀ i, i < 36 → w i ≤ 9) (hsy : ∀ p, p < n → sy p < 4) : xt_M l yX0_sumBefore cX0_sumBefore 3 none 3 D cI cL [.ref (ad 0)] (xX ad cI cL S K n wc dn w lw sy sb sh rw rk dr) (xt_Qv D cI cL (xX ad cI cL S K n wc dn w lw sy sb sh rw rk dr) (fun (u : (Nat → Nat)) => ∀ q t, q < n → t < S → u (q * 3 + t) = ms_bf (xe w sy) S q t) (fun u => xX ad cI cL S K n wc dn w lw sy u sh rw rk dr)) := by
  refine xt_start (own := RX0) rfl (by decide) (Nat.le_of_ble_eq_true rfl) (fun pg ev ss mi args below meth cd A Q ls C hE hA hl hW => ?_)
  replace hl : lv_has ls 3 [(0, .ref (ad 0))] := hl
  refine xt_iconst C 0 dX0_sumBefore_0 (by decide +kernel) ?_
  refine lv_istore_n C.1 C.2.1 dX0_sumBefore_1 rfl hl (by decide) rfl (fun ls hl => ?_)
  replace hl : lv_has ls 3 [(1, .int (nI 0)), (0, .ref (ad 0))] := hl
  have lp2 : ∀ (q : Nat) (a : Nat) (sv : Nat → Nat), n - a = q → (a ≤ n) → (∀ q t, q < a → t < S → sv (q * 3 + t) = ms_bf (xe w sy) S q t) → ∀ (ls : Array Slot) (H : Heap) (locs : List Loc), lv_has ls 3 [(1, .int (nI a)), (0, .ref (ad 0))] → xt_W D A ss.heap (xX ad cI cL S K n wc dn w lw sy sv sh rw rk dr) H locs → W pg l ev (xt_R 3) ss mi args below meth cd H locs 0 0 Q (F0 mi 2 ls []) := by
    intro q
    induction q using Nat.strongRecOn with
    | _ q ih2 =>
      intro a sv hq2 ha hv ls H locs hl hW
      refine lv_iload_n C.1 C.2.1 dX0_sumBefore_2 rfl (lv_at hl 0 rfl) ?_
      refine lv_aload_n C.1 C.2.1 dX0_sumBefore_3 rfl (lv_at hl 1 rfl) ?_
      refine xt_get xt_inX0 C hW 0 rfl rfl 4 (by decide) rfl flX0_seenCount rfl dX0_sumBefore_4 ?_
      refine xt_icmp_ge C (by omega) (by omega) dX0_sumBefore_7 (tgt := 62) (by decide) (fun h7 => ?_) (fun h7 => ?_)
      · exact xt_vret C hE sv hW (fun q t hq ht => hv q t (by omega) ht) dX0_sumBefore_62
      · refine xt_iconst C 0 dX0_sumBefore_10 (by decide +kernel) ?_
        refine lv_istore_n C.1 C.2.1 dX0_sumBefore_11 rfl hl (by decide) rfl (fun ls hl => ?_)
        replace hl : lv_has ls 3 [(2, .int (nI 0)), (1, .int (nI a)), (0, .ref (ad 0))] := hl
        have lp12 : ∀ (q : Nat) (b : Nat) (sv2 : Nat → Nat), S - b = q → (b ≤ S) → (∀ q t, (q < a ∨ (q = a ∧ t < b)) → t < S → sv2 (q * 3 + t) = ms_bf (xe w sy) S q t) → ∀ (ls : Array Slot) (H : Heap) (locs : List Loc), lv_has ls 3 [(2, .int (nI b)), (1, .int (nI a)), (0, .ref (ad 0))] → xt_W D A ss.heap (xX ad cI cL S K n wc dn w lw sy sv2 sh rw rk dr) H locs → W pg l ev (xt_R 3) ss mi args below meth cd H locs 0 0 Q (F0 mi 12 ls []) := by
          intro q
          induction q using Nat.strongRecOn with
          | _ q ih12 =>
            intro b sv2 hq12 hb hv2 ls H locs hl hW
            refine lv_iload_n C.1 C.2.1 dX0_sumBefore_12 rfl (lv_at hl 0 rfl) ?_
            refine lv_aload_n C.1 C.2.1 dX0_sumBefore_13 rfl (lv_at hl 2 rfl) ?_
            refine xt_get xt_inX0 C hW 0 rfl rfl 0 (by decide) rfl flX0_stateCount rfl dX0_sumBefore_14 ?_
            refine xt_icmp_ge C (by omega) (by omega) dX0_sumBefore_17 (tgt := 56) (by decide) (fun h17 => ?_) (fun h17 => ?_)
            · refine lv_iinc (k := 1) C.1 C.2.1 dX0_sumBefore_56 hl rfl xt_inc (by decide) rfl (fun ls hl => ?_)
              replace hl : lv_has ls 3 [(1, .int (nI (a + 1))), (2, .int (nI b)), (0, .ref (ad 0))] := hl
              refine lv_goto C.1 C.2.1 dX0_sumBefore_59 (tgt := 2) (by decide) ?_
              exact ih2 _ (by omega) (a + 1) sv2 rfl (by omega) (fun q t hq ht => hv2 q t (by omega) ht) ls _ _ (lv_sub hl [0, 2] rfl) hW
            · refine lv_aload_n C.1 C.2.1 dX0_sumBefore_20 rfl (lv_at hl 2 rfl) ?_
              refine xt_get xt_inX0 C hW 0 rfl rfl 6 (by decide) rfl flX0_sumsBefore rfl dX0_sumBefore_21 ?_
              refine lv_iload_n C.1 C.2.1 dX0_sumBefore_24 rfl (lv_at hl 1 rfl) ?_
              refine lv_iload_n C.1 C.2.1 dX0_sumBefore_25 rfl (lv_at hl 0 rfl) ?_
              refine xt_ci hA hW (xt_runS C hW.1 hW.2.1 cwX0_X0_cell (cx_cell l D cI cL (xX ad cI cL S K n wc dn w lw sy sv2 sh rw rk dr) a b) rfl hl.1 (rest := [.ref (ad 4)]) rfl (Nat.le_of_ble_eq_true rfl) ⟨(Nat.le_of_ble_eq_true rfl), (Nat.le_of_ble_eq_true rfl)⟩ ⟨Nat.zero_le _, Nat.zero_le _⟩ dX0_sumBefore_26) (fun r26 u H locs hp26 hW => ?_)
              replace hW : xt_W D A ss.heap (xX ad cI cL S K n wc dn w lw sy sv2 sh rw rk dr) H locs := hW
              subst hp26
              refine lv_iload_n C.1 C.2.1 dX0_sumBefore_29 rfl (lv_at hl 1 rfl) ?_
              refine xt_if_ne C (by omega) dX0_sumBefore_30 (tgt := 43) (by decide) (fun h30 => ?_) (fun h30 => ?_)
              · refine lv_aload_n C.1 C.2.1 dX0_sumBefore_43 rfl (lv_at hl 2 rfl) ?_
                refine lv_iload_n C.1 C.2.1 dX0_sumBefore_44 rfl (lv_at hl 1 rfl) ?_
                refine lv_iload_n C.1 C.2.1 dX0_sumBefore_45 rfl (lv_at hl 0 rfl) ?_
                refine xt_cl hA hW (xt_runV C hW.1 hW.2.1 cwX0_X0_sumInto (cx_sumInto l D cI cL ad S K n wc dn w lw sy sv2 sh rw rk dr a b (by omega) (by omega) (by omega) (by omega) (hw) (hsy _ (by omega))) rfl rfl rfl hl.1 (rest := [.int (nI (a * 3 + b)), .ref (ad 4)]) rfl (Nat.le_of_ble_eq_true rfl) ⟨(Nat.le_of_ble_eq_true rfl), (Nat.le_of_ble_eq_true rfl)⟩ ⟨Nat.zero_le _, Nat.zero_le _⟩ dX0_sumBefore_46) (fun r46 u H locs hp46 hW => ?_)
                replace hW : xt_W D A ss.heap (xX ad cI cL S K n wc dn w lw sy sv2 sh rw rk dr) H locs := hW
                subst hp46
                refine xt_last C hW 4 rfl (by decide) dX0_sumBefore_49 (by omega) (fun H locs hW => ?_)
                replace hW : xt_W D A ss.heap (xX ad cI cL S K n wc dn w lw sy (va_up sv2 (a * 3 + b) (ms_sum (fun z1 => sv2 ((a - 1) * 3 + z1) * xe w sy a z1 b) S)) sh rw rk dr) H locs := hW
                refine lv_iinc (k := 0) C.1 C.2.1 dX0_sumBefore_50 hl rfl xt_inc (by decide) rfl (fun ls hl => ?_)
                replace hl : lv_has ls 3 [(2, .int (nI (b + 1))), (1, .int (nI a)), (0, .ref (ad 0))] := hl
                refine lv_goto C.1 C.2.1 dX0_sumBefore_53 (tgt := 12) (by decide) ?_
                exact ih12 _ (by omega) (b + 1) (va_up sv2 (a * 3 + b) (ms_sum (fun z1 => sv2 ((a - 1) * 3 + z1) * xe w sy a z1 b) S)) rfl (by omega) (xq_bf hS3 (by omega) hv2 (xq_into h30 hv2)) ls _ _ (lv_sub hl [0, 1, 2] rfl) hW
              · refine lv_aload_n C.1 C.2.1 dX0_sumBefore_33 rfl (lv_at hl 2 rfl) ?_
                refine xt_iconst C 0 dX0_sumBefore_34 (by decide +kernel) ?_
                refine xt_iconst C 0 dX0_sumBefore_35 (by decide +kernel) ?_
                refine lv_iload_n C.1 C.2.1 dX0_sumBefore_36 rfl (lv_at hl 0 rfl) ?_
                refine xt_cl hA hW (xt_runV C hW.1 hW.2.1 cwX0_X0_entry (cx_entry l D cI cL ad S K n wc dn w lw sy sv2 sh rw rk dr 0 0 b (by omega) (by omega) (by omega) (hw) (hsy 0 (by omega))) rfl rfl rfl hl.1 (rest := [.int (nI (a * 3 + b)), .ref (ad 4)]) rfl (Nat.le_of_ble_eq_true rfl) ⟨(Nat.le_of_ble_eq_true rfl), (Nat.le_of_ble_eq_true rfl)⟩ ⟨Nat.zero_le _, Nat.zero_le _⟩ dX0_sumBefore_37) (fun r37 u H locs hp37 hW => ?_)
                replace hW : xt_W D A ss.heap (xX ad cI cL S K n wc dn w lw sy sv2 sh rw rk dr) H locs := hW
                subst hp37
                refine lv_goto C.1 C.2.1 dX0_sumBefore_40 (tgt := 49) (by decide) ?_
                refine xt_last C hW 4 rfl (by decide) dX0_sumBefore_49 (by omega) (fun H locs hW => ?_)
                replace hW : xt_W D A ss.heap (xX ad cI cL S K n wc dn w lw sy (va_up sv2 (a * 3 + b) (xe w sy 0 0 b)) sh rw rk dr) H locs := hW
                refine lv_iinc (k := 0) C.1 C.2.1 dX0_sumBefore_50 hl rfl xt_inc (by decide) rfl (fun ls hl => ?_)
                replace hl : lv_has ls 3 [(2, .int (nI (b + 1))), (1, .int (nI a)), (0, .ref (ad 0))] := hl
                refine lv_goto C.1 C.2.1 dX0_sumBefore_53 (tgt := 12) (by decide) ?_
                exact ih12 _ (by omega) (b + 1) (va_up sv2 (a * 3 + b) (xe w sy 0 0 b)) rfl (by omega) (xq_bf hS3 (by omega) hv2 (by rw [show a = 0 from h30]; rfl)) ls _ _ (lv_sub hl [0, 1, 2] rfl) hW
        exact lp12 _ 0 sv rfl (Nat.zero_le _) (fun q t hq ht => hv q t (by omega) ht) ls _ _ (lv_sub hl [0, 1, 2] rfl) hW
  exact lp2 _ 0 sb rfl (Nat.zero_le _) (fun q t hq _ => absurd hq (Nat.not_lt_zero q)) ls _ _ (lv_sub hl [0, 1] rfl) hW
set_option maxHeartbeats 4000000 in
set_option maxRecDepth 100000 in
theorem cx_sumBehind (l : Launch) (D : va_G) (cI cL : ClassId) (ad : Nat → Nat) (S K n wc dn : Nat) (w lw sy sb sh rw rk dr : Nat → Nat) (hn6 : n ≤ 6) (hS3 : S ≤ 3) (hS0 : 0 < S) (hw : ∀ i, i < 36 → w i ≤ 9) (hsy : ∀ p, p < n → sy p < 4) : xt_M l yX0_sumBehind cX0_sumBehind 3 none 3 D cI cL [.ref (ad 0)] (xX ad cI cL S K n wc dn w lw sy sb sh rw rk dr) (xt_Qv D cI cL (xX ad cI cL S K n wc dn w lw sy sb sh rw rk dr) (fun (u : (Nat → Nat)) => ∀ q t, q < n → t < S → u (q * 3 + t) = ms_bh (xe w sy) S n (n - 1 - q) t) (fun u => xX ad cI cL S K n wc dn w lw sy sb u rw rk dr)) := by
  refine xt_start (own := RX0) rfl (by decide) (Nat.le_of_ble_eq_true rfl) (fun pg ev ss mi args below meth cd A Q ls C hE hA hl hW => ?_)
  replace hl : lv_has ls 3 [(0, .ref (ad 0))] := hl
  refine lv_aload_n C.1 C.2.1 dX0_sumBehind_0 rfl (lv_at hl 0 rfl) ?_
  refine xt_get xt_inX0 C hW 0 rfl rfl 4 (by decide) rfl flX0_seenCount rfl dX0_sumBehind_1 ?_
  refine xt_iconst C 1 dX0_sumBehind_4 (by decide +kernel) ?_
  refine lv_isub C.1 C.2.1 dX0_sumBehind_5 ?_
  refine lv_istore_n C.1 C.2.1 dX0_sumBehind_6 rfl hl (by decide) rfl (fun ls hl => ?_)
  replace hl : lv_has ls 3 [(1, .int (nI n - nI 1)), (0, .ref (ad 0))] := hl
  have lp7 : ∀ (q : Nat) (a : Nat) (sv : Nat → Nat), a = q → (a ≤ n) → (∀ q t, a ≤ q → q < n → t < S → sv (q * 3 + t) = ms_bh (xe w sy) S n (n - 1 - q) t) → ∀ (ls : Array Slot) (H : Heap) (locs : List Loc), lv_has ls 3 [(1, .int (nI a - nI 1)), (0, .ref (ad 0))] → xt_W D A ss.heap (xX ad cI cL S K n wc dn w lw sy sb sv rw rk dr) H locs → W pg l ev (xt_R 3) ss mi args below meth cd H locs 0 0 Q (F0 mi 7 ls []) := by
    intro q
    induction q using Nat.strongRecOn with
    | _ q ih7 =>
      intro a sv hq7 ha hv ls H locs hl hW
      refine lv_iload_n C.1 C.2.1 dX0_sumBehind_7 rfl (lv_at hl 0 rfl) ?_
      refine xt_if_lt_m C (by omega) dX0_sumBehind_8 (tgt := 63) (by decide) (fun h8 => ?_) (fun h8 => ?_)
      · exact xt_vret C hE sv hW (fun q t hq ht => hv q t (by omega) hq ht) dX0_sumBehind_63
      · rw [pk_sub (show 1 ≤ a by omega)] at hl
        replace hl : lv_has ls 3 [(1, .int (nI (a - 1))), (0, .ref (ad 0))] := hl
        refine xt_iconst C 0 dX0_sumBehind_11 (by decide +kernel) ?_
        refine lv_istore_n C.1 C.2.1 dX0_sumBehind_12 rfl hl (by decide) rfl (fun ls hl => ?_)
        replace hl : lv_has ls 3 [(2, .int (nI 0)), (1, .int (nI (a - 1))), (0, .ref (ad 0))] := hl
        have lp13 : ∀ (q : Nat) (b : Nat) (sv2 : Nat → Nat), S - b = q → (b ≤ S) → (∀ q t, (a ≤ q ∨ (q + 1 = a ∧ t < b)) → q < n → t < S → sv2 (q * 3 + t) = ms_bh (xe w sy) S n (n - 1 - q) t) → ∀ (ls : Array Slot) (H : Heap) (locs : List Loc), lv_has ls 3 [(2, .int (nI b)), (1, .int (nI (a - 1))), (0, .ref (ad 0))] → xt_W D A ss.heap (xX ad cI cL S K n wc dn w lw sy sb sv2 rw rk dr) H locs → W pg l ev (xt_R 3) ss mi args below meth cd H locs 0 0 Q (F0 mi 13 ls []) := by
          intro q
          induction q using Nat.strongRecOn with
          | _ q ih13 =>
            intro b sv2 hq13 hb hv2 ls H locs hl hW
            refine lv_iload_n C.1 C.2.1 dX0_sumBehind_13 rfl (lv_at hl 0 rfl) ?_
            refine lv_aload_n C.1 C.2.1 dX0_sumBehind_14 rfl (lv_at hl 2 rfl) ?_
            refine xt_get xt_inX0 C hW 0 rfl rfl 0 (by decide) rfl flX0_stateCount rfl dX0_sumBehind_15 ?_
            refine xt_icmp_ge C (by omega) (by omega) dX0_sumBehind_18 (tgt := 57) (by decide) (fun h18 => ?_) (fun h18 => ?_)
            · refine lv_iinc (k := 1) C.1 C.2.1 dX0_sumBehind_57 hl rfl xt_decm (by decide) rfl (fun ls hl => ?_)
              replace hl : lv_has ls 3 [(1, .int (nI (a - 1) - nI 1)), (2, .int (nI b)), (0, .ref (ad 0))] := hl
              refine lv_goto C.1 C.2.1 dX0_sumBehind_60 (tgt := 7) (by decide) ?_
              exact ih7 _ (by omega) (a - 1) sv2 rfl (by omega) (fun q t hq hn ht => hv2 q t (by omega) hn ht) ls _ _ (lv_sub hl [0, 2] rfl) hW
            · refine lv_aload_n C.1 C.2.1 dX0_sumBehind_21 rfl (lv_at hl 2 rfl) ?_
              refine xt_get xt_inX0 C hW 0 rfl rfl 7 (by decide) rfl flX0_sumsBehind rfl dX0_sumBehind_22 ?_
              refine lv_iload_n C.1 C.2.1 dX0_sumBehind_25 rfl (lv_at hl 1 rfl) ?_
              refine lv_iload_n C.1 C.2.1 dX0_sumBehind_26 rfl (lv_at hl 0 rfl) ?_
              refine xt_ci hA hW (xt_runS C hW.1 hW.2.1 cwX0_X0_cell (cx_cell l D cI cL (xX ad cI cL S K n wc dn w lw sy sb sv2 rw rk dr) (a - 1) b) rfl hl.1 (rest := [.ref (ad 5)]) rfl (Nat.le_of_ble_eq_true rfl) ⟨(Nat.le_of_ble_eq_true rfl), (Nat.le_of_ble_eq_true rfl)⟩ ⟨Nat.zero_le _, Nat.zero_le _⟩ dX0_sumBehind_27) (fun r27 u H locs hp27 hW => ?_)
              replace hW : xt_W D A ss.heap (xX ad cI cL S K n wc dn w lw sy sb sv2 rw rk dr) H locs := hW
              subst hp27
              refine lv_iload_n C.1 C.2.1 dX0_sumBehind_30 rfl (lv_at hl 1 rfl) ?_
              refine lv_aload_n C.1 C.2.1 dX0_sumBehind_31 rfl (lv_at hl 2 rfl) ?_
              refine xt_get xt_inX0 C hW 0 rfl rfl 4 (by decide) rfl flX0_seenCount rfl dX0_sumBehind_32 ?_
              refine xt_iconst C 1 dX0_sumBehind_35 (by decide +kernel) ?_
              refine xt_isub C dX0_sumBehind_36 (by omega) ?_
              refine xt_icmp_ne C (by omega) (by omega) dX0_sumBehind_37 (tgt := 44) (by decide) (fun h37 => ?_) (fun h37 => ?_)
              · refine lv_aload_n C.1 C.2.1 dX0_sumBehind_44 rfl (lv_at hl 2 rfl) ?_
                refine lv_iload_n C.1 C.2.1 dX0_sumBehind_45 rfl (lv_at hl 1 rfl) ?_
                refine lv_iload_n C.1 C.2.1 dX0_sumBehind_46 rfl (lv_at hl 0 rfl) ?_
                refine xt_cl hA hW (xt_runV C hW.1 hW.2.1 cwX0_X0_sumOutOf (cx_sumOutOf l D cI cL ad S K n wc dn w lw sy sb sv2 rw rk dr (a - 1) b (by omega) (by omega) (by omega) (hw) (hsy _ (by omega))) rfl rfl rfl hl.1 (rest := [.int (nI ((a - 1) * 3 + b)), .ref (ad 5)]) rfl (Nat.le_of_ble_eq_true rfl) ⟨(Nat.le_of_ble_eq_true rfl), (Nat.le_of_ble_eq_true rfl)⟩ ⟨Nat.zero_le _, Nat.zero_le _⟩ dX0_sumBehind_47) (fun r47 u H locs hp47 hW => ?_)
                replace hW : xt_W D A ss.heap (xX ad cI cL S K n wc dn w lw sy sb sv2 rw rk dr) H locs := hW
                subst hp47
                refine xt_last C hW 5 rfl (by decide) dX0_sumBehind_50 (by omega) (fun H locs hW => ?_)
                replace hW : xt_W D A ss.heap (xX ad cI cL S K n wc dn w lw sy sb (va_up sv2 ((a - 1) * 3 + b) (ms_sum (fun z1 => xe w sy ((a - 1) + 1) b z1 * sv2 (((a - 1) + 1) * 3 + z1)) S)) rw rk dr) H locs := hW
                refine lv_iinc (k := 0) C.1 C.2.1 dX0_sumBehind_51 hl rfl xt_inc (by decide) rfl (fun ls hl => ?_)
                replace hl : lv_has ls 3 [(2, .int (nI (b + 1))), (1, .int (nI (a - 1))), (0, .ref (ad 0))] := hl
                refine lv_goto C.1 C.2.1 dX0_sumBehind_54 (tgt := 13) (by decide) ?_
                exact ih13 _ (by omega) (b + 1) (va_up sv2 ((a - 1) * 3 + b) (ms_sum (fun z1 => xe w sy ((a - 1) + 1) b z1 * sv2 (((a - 1) + 1) * 3 + z1)) S)) rfl (by omega) (xq_bh hS3 (by omega) (by omega) hv2 (xq_out (by omega) h37 (by omega) hv2)) ls _ _ (lv_sub hl [0, 1, 2] rfl) hW
              · refine xt_lconst C 1 dX0_sumBehind_40 (by decide +kernel) ?_
                refine lv_goto C.1 C.2.1 dX0_sumBehind_41 (tgt := 50) (by decide) ?_
                refine xt_last C hW 5 rfl (by decide) dX0_sumBehind_50 (by omega) (fun H locs hW => ?_)
                replace hW : xt_W D A ss.heap (xX ad cI cL S K n wc dn w lw sy sb (va_up sv2 ((a - 1) * 3 + b) 1) rw rk dr) H locs := hW
                refine lv_iinc (k := 0) C.1 C.2.1 dX0_sumBehind_51 hl rfl xt_inc (by decide) rfl (fun ls hl => ?_)
                replace hl : lv_has ls 3 [(2, .int (nI (b + 1))), (1, .int (nI (a - 1))), (0, .ref (ad 0))] := hl
                refine lv_goto C.1 C.2.1 dX0_sumBehind_54 (tgt := 13) (by decide) ?_
                exact ih13 _ (by omega) (b + 1) (va_up sv2 ((a - 1) * 3 + b) 1) rfl (by omega) (xq_bh hS3 (by omega) (by omega) hv2 (by rw [show n - 1 - (a - 1) = 0 by omega]; rfl)) ls _ _ (lv_sub hl [0, 1, 2] rfl) hW
        exact lp13 _ 0 sv rfl (Nat.zero_le _) (fun q t hq hn ht => hv q t (by omega) hn ht) ls _ _ (lv_sub hl [0, 1, 2] rfl) hW
  exact lp7 _ n sh rfl (Nat.le_refl _) (fun q t hq hn _ => absurd hn (by omega)) ls _ _ (lv_sub hl [0, 1] rfl) hW
