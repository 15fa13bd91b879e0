theorem xt_minN {a : Nat} (h : a < 2 ^ 31) : (if nI 12 < nI a then nI 12 else nI a) = nI (min a 12) := by
  by_cases c : 12 < a
  · rw [if_pos ((nI_ltI (by omega) h).mpr c)]
    congr 1
    omega
  · rw [if_neg (fun q => c ((nI_ltI (by omega) h).mp q))]
    congr 1
    omega
def xq_sh (wc i : Nat) (f : Nat → Nat) (j : Nat) : Nat := if i < j ∧ j ≤ wc then f (j - 1) else f j
theorem xq_sh_lo {wc i j : Nat} {f : Nat → Nat} (h : j ≤ i) : xq_sh wc i f j = f j := if_neg (by omega)
theorem xq_sh_init {wc j : Nat} {f : Nat → Nat} (h : j < 12) : f j = xq_sh wc (min wc 12) f j := (if_neg (by omega)).symm
theorem xq_sh_hi {wc i j : Nat} {f : Nat → Nat} (h : i < j) (h2 : j ≤ wc) : xq_sh wc i f j = f (j - 1) := if_pos ⟨h, h2⟩
theorem xq_st1 {wc i : Nat} {f rv : Nat → Nat} (hr : ∀ j, j < 12 → rv j = xq_sh wc i f j) (hi : i ≤ min wc 12) (h0 : 0 < i) (h12 : i < 12) : ∀ j, j < 12 → va_up rv (i - 1 + 1) (rv (i - 1)) j = xq_sh wc (i - 1) f j := by
  intro j hj
  by_cases e : j = i - 1 + 1
  · subst e
    rw [xq_up, hr _ (by omega), xq_sh_lo (by omega), xq_sh_hi (by omega) (by omega)]
    congr 1
  · rw [xq_un e, hr j hj]
    unfold xq_sh
    by_cases c : i < j ∧ j ≤ wc
    · rw [if_pos c, if_pos (by omega)]
    · rw [if_neg c, if_neg (by omega)]
theorem xq_st2 {wc i : Nat} {f rv : Nat → Nat} (hr : ∀ j, j < 12 → rv j = xq_sh wc i f j) (h12 : 12 ≤ i - 1 + 1) : ∀ j, j < 12 → rv j = xq_sh wc (i - 1) f j := by
  intro j hj
  rw [hr j hj, xq_sh_lo (by omega), xq_sh_lo (by omega)]
/-- a way of weight v is put among the ranks -/
def xq_ins (wc v y : Nat) (rw rk : Nat → Nat) (wc2 : Nat) (rw2 rk2 : Nat → Nat) : Prop :=
  ∃ pos, pos ≤ wc ∧ pos ≤ 12 ∧ (∀ j, pos ≤ j → j < wc → j < 12 → rw j < v) ∧ (∀ j, j + 1 = pos → v ≤ rw j) ∧ (∀ j, j < pos → j < 12 → rw2 j = rw j ∧ rk2 j = rk j) ∧ (pos < 12 → rw2 pos = v ∧ rk2 pos = y) ∧ (∀ j, pos ≤ j → j < wc → j + 1 < 12 → rw2 (j + 1) = rw j ∧ rk2 (j + 1) = rk j) ∧ wc2 = wc + 1
theorem xq_rank_a {wc v y i : Nat} {rw rk rv kv : Nat → Nat} (hi : i ≤ min wc 12) (hb : ∀ j, i ≤ j → j < wc → j < 12 → rw j < v) (hz : ∀ j, j + 1 = i → v ≤ rw j) (hr : ∀ j, j < 12 → rv j = xq_sh wc i rw j) (hk : ∀ j, j < 12 → kv j = xq_sh wc i rk j) (h12 : i < 12) :
    xq_ins wc v y rw rk (wc + 1) (va_up rv i v) (va_up kv i y) := by
  refine ⟨i, by omega, by omega, hb, hz, fun j h1 h2 => ?_, fun _ => ⟨xq_up, xq_up⟩, fun j h1 h2 h3 => ?_, rfl⟩
  · rw [xq_un (by omega), xq_un (by omega), hr j h2, hk j h2, xq_sh_lo (by omega), xq_sh_lo (by omega)]
    exact ⟨rfl, rfl⟩
  · rw [xq_un (by omega), xq_un (by omega), hr _ h3, hk _ h3, xq_sh_hi (by omega) (by omega), xq_sh_hi (by omega) (by omega), Nat.add_sub_cancel]
    exact ⟨rfl, rfl⟩
theorem xq_rank_b {wc v y i : Nat} {rw rk rv kv : Nat → Nat} (hi : i ≤ min wc 12) (hb : ∀ j, i ≤ j → j < wc → j < 12 → rw j < v) (hz : ∀ j, j + 1 = i → v ≤ rw j) (hr : ∀ j, j < 12 → rv j = xq_sh wc i rw j) (hk : ∀ j, j < 12 → kv j = xq_sh wc i rk j) (h12 : 12 ≤ i) :
    xq_ins wc v y rw rk (wc + 1) rv kv := by
  refine ⟨i, by omega, by omega, hb, hz, fun j h1 h2 => ?_, fun h => absurd h (by omega), fun j h1 h2 h3 => absurd h3 (by omega), rfl⟩
  rw [hr j h2, hk j h2, xq_sh_lo (by omega), xq_sh_lo (by omega)]
  exact ⟨rfl, rfl⟩
set_option maxHeartbeats 4000000 in
set_option maxRecDepth 100000 in
theorem cx_rankWay (l : Launch) (D : va_G) (cI cL : ClassId) (ad : Nat → Nat) (S K n wc dn : Nat) (w lw sy sb sh rw rk dr : Nat → Nat) (y : Nat) (v : Nat) (hvb : v < 2 ^ 63) (hrb : ∀ j, j < wc → j < 12 → rw j < 2 ^ 63) (hwc : wc < 2 ^ 30) : xt_M l yX0_rankWay cX0_rankWay 5 none 1 D cI cL [.ref (ad 0), .int (nI y), .long (lN v)] (xX ad cI cL S K n wc dn w lw sy sb sh rw rk dr) (xt_Qv D cI cL (xX ad cI cL S K n wc dn w lw sy sb sh rw rk dr) (fun (u : (Nat) × (Nat → Nat) × (Nat → Nat)) => xq_ins wc v y rw rk u.1 u.2.1 u.2.2) (fun u => xX ad cI cL S K n u.1 dn w lw sy sb sh u.2.1 u.2.2 dr)) := by
  refine xt_start (own := RX0) rfl (by decide) (Nat.le_of_ble_eq_true rfl) (fun pg ev ss mi args below meth cd A Q ls C hE hA hl hW => ?_)
  replace hl : lv_has ls 5 [(0, .ref (ad 0)), (1, .int (nI y)), (2, .long (lN v))] := hl
  refine lv_aload_n C.1 C.2.1 dX0_rankWay_0 rfl (lv_at hl 0 rfl) ?_
  refine xt_get xt_inX0 C hW 0 rfl rfl 8 (by decide) rfl flX0_wayCount rfl dX0_rankWay_1 ?_
  refine xt_bipush C 12 dX0_rankWay_4 (by decide +kernel) ?_
  refine va_mmin C.1 C.2.1 (C.2.2.1.trans hl.1.symm) C.o (C.t xt_min.1) (C.t xt_min.2.1) (C.t xt_min.2.2.1) (C.t xt_min.2.2.2) (Nat.le_of_ble_eq_true rfl) (Nat.le_of_ble_eq_true rfl) (Nat.zero_le _) (Nat.zero_le _) dX0_rankWay_6 ?_
  rw [xt_minN (by omega)]
  refine lv_istore C.1 C.2.1 dX0_rankWay_9 hl (by decide) rfl (fun ls hl => ?_)
  replace hl : lv_has ls 5 [(4, .int (nI (min wc 12))), (0, .ref (ad 0)), (1, .int (nI y)), (2, .long (lN v))] := hl
  have lp11 : ∀ (q : Nat) (i : Nat) (rv : Nat → Nat) (kv : Nat → Nat), i = q → (i ≤ min wc 12) → (∀ j, i ≤ j → j < wc → j < 12 → rw j < v) → (∀ j, j < 12 → rv j = xq_sh wc i rw j) → (∀ j, j < 12 → kv j = xq_sh wc i rk j) → ∀ (ls : Array Slot) (H : Heap) (locs : List Loc), lv_has ls 5 [(4, .int (nI i)), (0, .ref (ad 0)), (1, .int (nI y)), (2, .long (lN v))] → xt_W D A ss.heap (xX ad cI cL S K n wc dn w lw sy sb sh rv kv dr) H locs → W pg l ev (xt_R 1) ss mi args below meth cd H locs 0 0 Q (F0 mi 11 ls []) := by
    intro q
    induction q using Nat.strongRecOn with
    | _ q ih11 =>
      intro i rv kv hq11 hi hb hr hk ls H locs hl hW
      refine lv_iload C.1 C.2.1 dX0_rankWay_11 (lv_at hl 0 rfl) ?_
      refine xt_if_le C (by omega) dX0_rankWay_13 (tgt := 77) (by decide) (fun h13 => ?_) (fun h13 => ?_)
      · have hz : ∀ j, j + 1 = i → v ≤ rw j := fun j hj => absurd hj (by omega)
        refine lv_iload C.1 C.2.1 dX0_rankWay_77 (lv_at hl 0 rfl) ?_
        refine xt_bipush C 12 dX0_rankWay_79 (by decide +kernel) ?_
        refine xt_icmp_ge C (by omega) (by omega) dX0_rankWay_81 (tgt := 100) (by decide) (fun h81 => ?_) (fun h81 => ?_)
        · refine lv_aload_n C.1 C.2.1 dX0_rankWay_100 rfl (lv_at hl 1 rfl) ?_
          refine lv_dup C.1 C.2.1 dX0_rankWay_101 rfl ?_
          refine xt_get xt_inX0 C hW 0 rfl rfl 8 (by decide) rfl flX0_wayCount rfl dX0_rankWay_102 ?_
          refine xt_iconst C 1 dX0_rankWay_105 (by decide +kernel) ?_
          refine xt_iadd C dX0_rankWay_106 ?_
          refine xt_put (ty := .int) xt_inX0 tyX0 tyX0_ok nmX0 C hW 0 rfl rfl 8 (by decide) rfl flX0_wayCount rfl (by decide +kernel) rfl rfl (Nat.le_of_ble_eq_true rfl) dX0_rankWay_107 (fun H locs hW => ?_)
          replace hW : xt_W D A ss.heap (xX ad cI cL S K n (wc + 1) dn w lw sy sb sh rv kv dr) H locs := hW
          exact xt_vret C hE (wc + 1, rv, kv) hW (xq_rank_b hi hb hz hr hk (by omega)) dX0_rankWay_110
        · refine lv_aload_n C.1 C.2.1 dX0_rankWay_84 rfl (lv_at hl 1 rfl) ?_
          refine xt_get xt_inX0 C hW 0 rfl rfl 9 (by decide) rfl flX0_rankedWeights rfl dX0_rankWay_85 ?_
          refine lv_iload C.1 C.2.1 dX0_rankWay_88 (lv_at hl 0 rfl) ?_
          refine lv_lload_n C.1 C.2.1 dX0_rankWay_90 rfl (lv_at hl 3 rfl) ?_
          refine xt_last C hW 6 rfl (by decide) dX0_rankWay_91 (by omega) (fun H locs hW => ?_)
          replace hW : xt_W D A ss.heap (xX ad cI cL S K n wc dn w lw sy sb sh (va_up rv i v) kv dr) H locs := hW
          refine lv_aload_n C.1 C.2.1 dX0_rankWay_92 rfl (lv_at hl 1 rfl) ?_
          refine xt_get xt_inX0 C hW 0 rfl rfl 10 (by decide) rfl flX0_rankedWays rfl dX0_rankWay_93 ?_
          refine lv_iload C.1 C.2.1 dX0_rankWay_96 (lv_at hl 0 rfl) ?_
          refine lv_iload_n C.1 C.2.1 dX0_rankWay_98 rfl (lv_at hl 2 rfl) ?_
          refine xt_iast C hW 7 rfl (by decide) dX0_rankWay_99 (by omega) (fun H locs hW => ?_)
          replace hW : xt_W D A ss.heap (xX ad cI cL S K n wc dn w lw sy sb sh (va_up rv i v) (va_up kv i y) dr) H locs := hW
          refine lv_aload_n C.1 C.2.1 dX0_rankWay_100 rfl (lv_at hl 1 rfl) ?_
          refine lv_dup C.1 C.2.1 dX0_rankWay_101 rfl ?_
          refine W.eq (g2 := F0 mi 102 ls [.ref (ad 0), .ref (ad 0)]) rfl ?_
          refine xt_get xt_inX0 C hW 0 rfl rfl 8 (by decide) rfl flX0_wayCount rfl dX0_rankWay_102 ?_
          refine xt_iconst C 1 dX0_rankWay_105 (by decide +kernel) ?_
          refine xt_iadd C dX0_rankWay_106 ?_
          refine xt_put (ty := .int) xt_inX0 tyX0 tyX0_ok nmX0 C hW 0 rfl rfl 8 (by decide) rfl flX0_wayCount rfl (by decide +kernel) rfl rfl (Nat.le_of_ble_eq_true rfl) dX0_rankWay_107 (fun H locs hW => ?_)
          replace hW : xt_W D A ss.heap (xX ad cI cL S K n (wc + 1) dn w lw sy sb sh (va_up rv i v) (va_up kv i y) dr) H locs := hW
          exact xt_vret C hE (wc + 1, va_up rv i v, va_up kv i y) hW (xq_rank_a hi hb hz hr hk (by omega)) dX0_rankWay_110
      · refine lv_aload_n C.1 C.2.1 dX0_rankWay_16 rfl (lv_at hl 1 rfl) ?_
        refine xt_get xt_inX0 C hW 0 rfl rfl 9 (by decide) rfl flX0_rankedWeights rfl dX0_rankWay_17 ?_
        refine lv_iload C.1 C.2.1 dX0_rankWay_20 (lv_at hl 0 rfl) ?_
        refine xt_iconst C 1 dX0_rankWay_22 (by decide +kernel) ?_
        refine xt_isub C dX0_rankWay_23 (by omega) ?_
        refine xt_lald C hW 6 rfl (by decide) dX0_rankWay_24 (by omega) ?_
        refine lv_lload_n C.1 C.2.1 dX0_rankWay_25 rfl (lv_at hl 3 rfl) ?_
        refine xt_l_ge C (by rw [hr (i - 1) (by omega), xq_sh_lo (by omega)]; exact hrb _ (by omega) (by omega)) (hvb) dX0_rankWay_26 dX0_rankWay_27 (tgt := 77) (by decide) (fun h26 => ?_) (fun h26 => ?_)
        · have hz : ∀ j, j + 1 = i → v ≤ rw j := fun j hj => by rw [show j = i - 1 by omega, ← xq_sh_lo (wc := wc) (i := i) (f := rw) (show i - 1 ≤ i by omega), ← hr (i - 1) (by omega)]; exact h26
          refine lv_iload C.1 C.2.1 dX0_rankWay_77 (lv_at hl 0 rfl) ?_
          refine xt_bipush C 12 dX0_rankWay_79 (by decide +kernel) ?_
          refine xt_icmp_ge C (by omega) (by omega) dX0_rankWay_81 (tgt := 100) (by decide) (fun h81 => ?_) (fun h81 => ?_)
          · refine lv_aload_n C.1 C.2.1 dX0_rankWay_100 rfl (lv_at hl 1 rfl) ?_
            refine lv_dup C.1 C.2.1 dX0_rankWay_101 rfl ?_
            refine xt_get xt_inX0 C hW 0 rfl rfl 8 (by decide) rfl flX0_wayCount rfl dX0_rankWay_102 ?_
            refine xt_iconst C 1 dX0_rankWay_105 (by decide +kernel) ?_
            refine xt_iadd C dX0_rankWay_106 ?_
            refine xt_put (ty := .int) xt_inX0 tyX0 tyX0_ok nmX0 C hW 0 rfl rfl 8 (by decide) rfl flX0_wayCount rfl (by decide +kernel) rfl rfl (Nat.le_of_ble_eq_true rfl) dX0_rankWay_107 (fun H locs hW => ?_)
            replace hW : xt_W D A ss.heap (xX ad cI cL S K n (wc + 1) dn w lw sy sb sh rv kv dr) H locs := hW
            exact xt_vret C hE (wc + 1, rv, kv) hW (xq_rank_b hi hb hz hr hk (by omega)) dX0_rankWay_110
          · refine lv_aload_n C.1 C.2.1 dX0_rankWay_84 rfl (lv_at hl 1 rfl) ?_
            refine xt_get xt_inX0 C hW 0 rfl rfl 9 (by decide) rfl flX0_rankedWeights rfl dX0_rankWay_85 ?_
            refine lv_iload C.1 C.2.1 dX0_rankWay_88 (lv_at hl 0 rfl) ?_
            refine lv_lload_n C.1 C.2.1 dX0_rankWay_90 rfl (lv_at hl 3 rfl) ?_
            refine xt_last C hW 6 rfl (by decide) dX0_rankWay_91 (by omega) (fun H locs hW => ?_)
            replace hW : xt_W D A ss.heap (xX ad cI cL S K n wc dn w lw sy sb sh (va_up rv i v) kv dr) H locs := hW
            refine lv_aload_n C.1 C.2.1 dX0_rankWay_92 rfl (lv_at hl 1 rfl) ?_
            refine xt_get xt_inX0 C hW 0 rfl rfl 10 (by decide) rfl flX0_rankedWays rfl dX0_rankWay_93 ?_
            refine lv_iload C.1 C.2.1 dX0_rankWay_96 (lv_at hl 0 rfl) ?_
            refine lv_iload_n C.1 C.2.1 dX0_rankWay_98 rfl (lv_at hl 2 rfl) ?_
            refine xt_iast C hW 7 rfl (by decide) dX0_rankWay_99 (by omega) (fun H locs hW => ?_)
            replace hW : xt_W D A ss.heap (xX ad cI cL S K n wc dn w lw sy sb sh (va_up rv i v) (va_up kv i y) dr) H locs := hW
            refine lv_aload_n C.1 C.2.1 dX0_rankWay_100 rfl (lv_at hl 1 rfl) ?_
            refine lv_dup C.1 C.2.1 dX0_rankWay_101 rfl ?_
            refine W.eq (g2 := F0 mi 102 ls [.ref (ad 0), .ref (ad 0)]) rfl ?_
            refine xt_get xt_inX0 C hW 0 rfl rfl 8 (by decide) rfl flX0_wayCount rfl dX0_rankWay_102 ?_
            refine xt_iconst C 1 dX0_rankWay_105 (by decide +kernel) ?_
            refine xt_iadd C dX0_rankWay_106 ?_
            refine xt_put (ty := .int) xt_inX0 tyX0 tyX0_ok nmX0 C hW 0 rfl rfl 8 (by decide) rfl flX0_wayCount rfl (by decide +kernel) rfl rfl (Nat.le_of_ble_eq_true rfl) dX0_rankWay_107 (fun H locs hW => ?_)
            replace hW : xt_W D A ss.heap (xX ad cI cL S K n (wc + 1) dn w lw sy sb sh (va_up rv i v) (va_up kv i y) dr) H locs := hW
            exact xt_vret C hE (wc + 1, va_up rv i v, va_up kv i y) hW (xq_rank_a hi hb hz hr hk (by omega)) dX0_rankWay_110
        · have hlt : rw (i - 1) < v := by rw [← xq_sh_lo (wc := wc) (i := i) (f := rw) (show i - 1 ≤ i by omega), ← hr (i - 1) (by omega)]; exact h26
          refine lv_iinc (k := 0) C.1 C.2.1 dX0_rankWay_30 hl rfl (xt_dec (by omega)) (by decide) rfl (fun ls hl => ?_)
          replace hl : lv_has ls 5 [(4, .int (nI (i - 1))), (0, .ref (ad 0)), (1, .int (nI y)), (2, .long (lN v))] := hl
          refine lv_iload C.1 C.2.1 dX0_rankWay_33 (lv_at hl 0 rfl) ?_
          refine xt_iconst C 1 dX0_rankWay_35 (by decide +kernel) ?_
          refine xt_iadd C dX0_rankWay_36 ?_
          refine xt_bipush C 12 dX0_rankWay_37 (by decide +kernel) ?_
          refine xt_icmp_ge C (by omega) (by omega) dX0_rankWay_39 (tgt := 11) (by decide) (fun h39 => ?_) (fun h39 => ?_)
          · exact ih11 _ (by omega) (i - 1) rv kv rfl (by omega) (fun j h1 h2 h3 => if e : j = i - 1 then (by rw [e]; exact hlt) else hb j (by omega) h2 h3) (xq_st2 hr (by omega)) (xq_st2 hk (by omega)) ls _ _ (lv_sub hl [0, 1, 2, 3] rfl) hW
          · refine lv_aload_n C.1 C.2.1 dX0_rankWay_42 rfl (lv_at hl 1 rfl) ?_
            refine xt_get xt_inX0 C hW 0 rfl rfl 9 (by decide) rfl flX0_rankedWeights rfl dX0_rankWay_43 ?_
            refine lv_iload C.1 C.2.1 dX0_rankWay_46 (lv_at hl 0 rfl) ?_
            refine xt_iconst C 1 dX0_rankWay_48 (by decide +kernel) ?_
            refine xt_iadd C dX0_rankWay_49 ?_
            refine lv_aload_n C.1 C.2.1 dX0_rankWay_50 rfl (lv_at hl 1 rfl) ?_
            refine xt_get xt_inX0 C hW 0 rfl rfl 9 (by decide) rfl flX0_rankedWeights rfl dX0_rankWay_51 ?_
            refine lv_iload C.1 C.2.1 dX0_rankWay_54 (lv_at hl 0 rfl) ?_
            refine xt_lald C hW 6 rfl (by decide) dX0_rankWay_56 (by omega) ?_
            refine xt_last C hW 6 rfl (by decide) dX0_rankWay_57 (by omega) (fun H locs hW => ?_)
            replace hW : xt_W D A ss.heap (xX ad cI cL S K n wc dn w lw sy sb sh (va_up rv ((i - 1) + 1) (rv (i - 1))) kv dr) H locs := hW
            refine lv_aload_n C.1 C.2.1 dX0_rankWay_58 rfl (lv_at hl 1 rfl) ?_
            refine xt_get xt_inX0 C hW 0 rfl rfl 10 (by decide) rfl flX0_rankedWays rfl dX0_rankWay_59 ?_
            refine W.eq (g2 := F0 mi 62 ls [.ref (ad 7)]) rfl ?_
            refine lv_iload C.1 C.2.1 dX0_rankWay_62 (lv_at hl 0 rfl) ?_
            refine xt_iconst C 1 dX0_rankWay_64 (by decide +kernel) ?_
            refine xt_iadd C dX0_rankWay_65 ?_
            refine lv_aload_n C.1 C.2.1 dX0_rankWay_66 rfl (lv_at hl 1 rfl) ?_
            refine xt_get xt_inX0 C hW 0 rfl rfl 10 (by decide) rfl flX0_rankedWays rfl dX0_rankWay_67 ?_
            refine lv_iload C.1 C.2.1 dX0_rankWay_70 (lv_at hl 0 rfl) ?_
            refine xt_iald C hW 7 rfl (by decide) dX0_rankWay_72 (by omega) ?_
            refine xt_iast C hW 7 rfl (by decide) dX0_rankWay_73 (by omega) (fun H locs hW => ?_)
            replace hW : xt_W D A ss.heap (xX ad cI cL S K n wc dn w lw sy sb sh (va_up rv ((i - 1) + 1) (rv (i - 1))) (va_up kv ((i - 1) + 1) (kv (i - 1))) dr) H locs := hW
            refine lv_goto C.1 C.2.1 dX0_rankWay_74 (tgt := 11) (by decide) ?_
            exact ih11 _ (by omega) (i - 1) (va_up rv ((i - 1) + 1) (rv (i - 1))) (va_up kv ((i - 1) + 1) (kv (i - 1))) rfl (by omega) (fun j h1 h2 h3 => if e : j = i - 1 then (by rw [e]; exact hlt) else hb j (by omega) h2 h3) (xq_st1 hr hi (by omega) (by omega)) (xq_st1 hk hi (by omega) (by omega)) ls _ _ (lv_sub hl [0, 1, 2, 3] rfl) hW
  exact lp11 _ (min wc 12) rw rk rfl (Nat.le_refl _) (fun j h1 h2 h3 => absurd h1 (by omega)) (fun j h => xq_sh_init h) (fun j h => xq_sh_init h) ls _ _ (lv_sub hl [0, 1, 2, 3] rfl) hW
