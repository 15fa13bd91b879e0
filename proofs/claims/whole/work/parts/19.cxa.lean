/-- the sum of all weights that are learned -/
def xq_lsm (S K n : Nat) (w sy : Nat → Nat) : Nat := ms_sum (fun z1 => ms_sum (fun z2 => ms_sum (fun z3 => xq_lv S K n w sy z1 z2 z3) (xq_cl S K z1)) (xq_rw S z1)) 3
theorem xq_lrn {S K n a b : Nat} {w sy lv lv2 : Nat → Nat} (hS0 : 0 < S) (hS3 : S ≤ 3) (hK4 : K ≤ 4) (hb : b < xq_rw S a)
    (g3 : ∀ z1 z2 z3, (z1 < a ∨ (z1 = a ∧ z2 < b)) → z2 < xq_rw S z1 → z3 < xq_cl S K z1 → lv ((z1 * 3 + z2) * 4 + z3) = xq_lv S K n w sy z1 z2 z3)
    (h1 : ∀ z1, z1 < xq_cl S K a → lv2 ((a * 3 + b) * 4 + z1) = xq_lv S K n w sy a b z1) (h2 : ∀ z2, (∀ z1, z1 < xq_cl S K a → z2 ≠ (a * 3 + b) * 4 + z1) → lv2 z2 = lv z2) :
    ∀ z1 z2 z3, (z1 < a ∨ (z1 = a ∧ z2 < b + 1)) → z2 < xq_rw S z1 → z3 < xq_cl S K z1 → lv2 ((z1 * 3 + z2) * 4 + z3) = xq_lv S K n w sy z1 z2 z3 := by
  intro z1 z2 z3 hz h5 h6
  by_cases e : z1 = a ∧ z2 = b
  · obtain ⟨rfl, rfl⟩ := e
    exact h1 z3 h6
  · have c1 := xq_clb (a := z1) hS3 hK4
    have c2 := xq_clb (a := a) hS3 hK4
    have r1 := xq_rwb (a := z1) hS0 hS3
    have r2 := xq_rwb (a := a) hS0 hS3
    rw [h2 _ (fun q hq => by omega)]
    exact g3 z1 z2 z3 (by omega) h5 h6
theorem xq_slb {S K a b c : Nat} (hS3 : S ≤ 3) (hK4 : K ≤ 4) (h : xq_kr S K a b c) : (a * 3 + b) * 4 + c < 36 := by
  unfold xq_kr at h
  omega
theorem xq_totb {S n : Nat} {w sy : Nat → Nat} (hS0 : 0 < S) (hS3 : S ≤ 3) (hn6 : n ≤ 6) (hw : ∀ i, i < 36 → w i ≤ 9) (hsy : ∀ p, p < n → sy p < 4) : ms_sum (fun z1 => ms_wt (xe w sy) S n z1) (S ^ n) < 2 ^ 63 :=
  Nat.lt_of_le_of_lt (ms_tot_le hS0 hS3 hn6 (xq_e81 hw hS3 hsy)) (by decide)
def xq_sr (S K n ka kb kc : Nat) : Prop := (ka = 0 ∧ kb < n ∧ kc < S) ∨ (ka = 1 ∧ kb < S ∧ kc < S) ∨ (ka = 2 ∧ kb < S ∧ kc < K)
theorem xq_sku {S K n a b c : Nat} (hn6 : n ≤ 6) (h : xq_sr S K n a b c) : xq_ku S K a b c := by
  unfold xq_sr at h
  unfold xq_ku
  omega
theorem xq_skr {S K n a b c : Nat} (h0 : a ≠ 0) (h : xq_sr S K n a b c) : xq_kr S K a b c := by
  unfold xq_sr at h
  unfold xq_kr
  omega
/-- drawing: a step of units -/
theorem xq_un1 {S n p r a t : Nat} {w sy sh : Nat → Nat} {wt fr : Nat} (hn : n = p + 1 + r) (ht : t < S) (hwt : wt = ms_wt (xe w sy) S p a) (hfr : fr = ms_ls S p a) (hsh : ∀ q t, q < n → t < S → sh (q * 3 + t) = ms_bh (xe w sy) S n (n - 1 - q) t) :
    ms_sum (fun z1 => ms_wt (xe w sy) S n z1) ((a * S + t + 1) * S ^ r) = ms_sum (fun z1 => ms_wt (xe w sy) S n z1) ((a * S + t) * S ^ r) + wt * xe w sy p fr t * sh (p * 3 + t) := by
  rw [hsh p t (by omega) ht, show n - 1 - p = r by omega, hwt, hfr]
  exact ms_blk_step (xe_0 w sy) hn ht
theorem xq_unl {S n p r a t : Nat} {w sy sh : Nat → Nat} {wt fr : Nat} (hn : n = p + 1 + r) (ht : t < S) (ha : a < S ^ p) (hwt : wt = ms_wt (xe w sy) S p a) (hfr : fr = ms_ls S p a) (hsh : ∀ q t, q < n → t < S → sh (q * 3 + t) = ms_bh (xe w sy) S n (n - 1 - q) t) (htb : ms_sum (fun z1 => ms_wt (xe w sy) S n z1) (S ^ n) < 2 ^ 63) : wt * xe w sy p fr t * sh (p * 3 + t) < 2 ^ 63 := by
  have h1 := xq_un1 (w := w) (sy := sy) hn ht hwt hfr hsh
  have h2 : (a * S + t + 1) * S ^ r ≤ S ^ n := by
    have h3 : a * S + t + 1 ≤ S ^ (p + 1) := xq_snl ha ht
    have h4 := Nat.mul_le_mul_right (S ^ r) h3
    rw [← Nat.pow_add, ← hn] at h4
    exact h4
  have h5 := ms_sum_len (f := fun z1 => ms_wt (xe w sy) S n z1) h2
  omega
set_option maxHeartbeats 4000000 in
set_option maxRecDepth 100000 in
theorem cx_learn (l : Launch) (D : va_G) (cI cL : ClassId) (ad : Nat → Nat) (S K n wc dn : Nat) (w lw sy sb sh rw rk dr : Nat → Nat) (hV : xq_V S K n wc w lw sy sb sh rw rk) : xt_M l yX0_learn cX0_learn 4 (some .int) 10 D cI cL [.ref (ad 0)] (xX ad cI cL S K n wc dn w lw sy sb sh rw rk dr) (xt_Qi D cI cL (xX ad cI cL S K n wc dn w lw sy sb sh rw rk dr) (fun (r : Int32) (u : (Nat → Nat) × (Nat → Nat) × (Nat → Nat) × (Nat → Nat) × (Nat) × (Nat → Nat) × (Nat → Nat)) => r = nI (xq_lsm S K n w sy) ∧ (∀ z1 z2 z3, xq_kr S K z1 z2 z3 → u.1 ((z1 * 3 + z2) * 4 + z3) = xq_lv S K n w sy z1 z2 z3) ∧ (∀ z1, z1 < 36 → u.1 z1 ≤ 9) ∧ (∀ z1, z1 < 36 → u.2.1 z1 ≤ 9) ∧ xq_ok S n u.1 sy u.2.2.1 u.2.2.2.1 u.2.2.2.2.1 u.2.2.2.2.2.1 u.2.2.2.2.2.2) (fun u => xX ad cI cL S K n u.2.2.2.2.1 dn u.1 u.2.1 sy u.2.2.1 u.2.2.2.1 u.2.2.2.2.2.1 u.2.2.2.2.2.2 dr)) := by
  have hV2 := hV
  obtain ⟨hS0, hS3, hK0, hK4, hn6, hw, hlw, hsK, hok⟩ := hV
  have hsy : ∀ p, p < n → sy p < 4 := fun p h => Nat.lt_of_lt_of_le (hsK p h) hK4
  refine xt_start (own := RX0) rfl (by decide) (Nat.le_of_ble_eq_true rfl) (fun pg ev ss mi args below meth cd A Q ls C hE hA hl hW => ?_)
  replace hl : lv_has ls 4 [(0, .ref (ad 0))] := hl
  refine xt_iconst C 0 dX0_learn_0 (by decide +kernel) ?_
  refine lv_istore_n C.1 C.2.1 dX0_learn_1 rfl hl (by decide) rfl (fun ls hl => ?_)
  replace hl : lv_has ls 4 [(1, .int (nI 0)), (0, .ref (ad 0))] := hl
  refine xt_iconst C 0 dX0_learn_2 (by decide +kernel) ?_
  refine lv_istore_n C.1 C.2.1 dX0_learn_3 rfl hl (by decide) rfl (fun ls hl => ?_)
  replace hl : lv_has ls 4 [(2, .int (nI 0)), (1, .int (nI 0)), (0, .ref (ad 0))] := hl
  have lp4 : ∀ (q : Nat) (a : Nat) (lv : Nat → Nat), 3 - a = q → (a ≤ 3) → (∀ z1 z2 z3, z1 < a → z2 < xq_rw S z1 → z3 < xq_cl S K z1 → lv ((z1 * 3 + z2) * 4 + z3) = xq_lv S K n w sy z1 z2 z3) → (∀ z1, z1 < 36 → lv z1 ≤ 9) → ∀ (ls : Array Slot) (H : Heap) (locs : List Loc), lv_has ls 4 [(2, .int (nI a)), (1, .int (nI (ms_sum (fun z1 => ms_sum (fun z2 => ms_sum (fun z3 => xq_lv S K n w sy z1 z2 z3) (xq_cl S K z1)) (xq_rw S z1)) a))), (0, .ref (ad 0))] → xt_W D A ss.heap (xX ad cI cL S K n wc dn w lv sy sb sh rw rk dr) H locs → W pg l ev (xt_R 10) ss mi args below meth cd H locs 0 0 Q (F0 mi 4 ls []) := by
    intro q
    induction q using Nat.strongRecOn with
    | _ q ih4 =>
      intro a lv hq4 ha g1 g2 ls H locs hl hW
      refine lv_iload_n C.1 C.2.1 dX0_learn_4 rfl (lv_at hl 0 rfl) ?_
      refine xt_iconst C 3 dX0_learn_5 (by decide +kernel) ?_
      refine xt_icmp_ge C (by omega) (by omega) dX0_learn_6 (tgt := 41) (by decide) (fun h6 => ?_) (fun h6 => ?_)
      · refine lv_aload_n C.1 C.2.1 dX0_learn_41 rfl (lv_at hl 2 rfl) ?_
        refine xt_get xt_inX0 C hW 0 rfl rfl 3 (by decide) rfl flX0_learnedWeights rfl dX0_learn_42 ?_
        refine xt_iconst C 0 dX0_learn_45 (by decide +kernel) ?_
        refine lv_aload_n C.1 C.2.1 dX0_learn_46 rfl (lv_at hl 2 rfl) ?_
        refine xt_get xt_inX0 C hW 0 rfl rfl 2 (by decide) rfl flX0_weights rfl dX0_learn_47 ?_
        refine xt_iconst C 0 dX0_learn_50 (by decide +kernel) ?_
        refine lv_aload_n C.1 C.2.1 dX0_learn_51 rfl (lv_at hl 2 rfl) ?_
        refine xt_get xt_inX0 C hW 0 rfl rfl 2 (by decide) rfl flX0_weights rfl dX0_learn_52 ?_
        refine va_alen (v := nI 36) C.1 C.2.1 C.K hW.1 1 0 rfl rfl rfl dX0_learn_55 ?_
        refine xt_copyi C hW hl.1 2 1 36 rfl rfl (by decide) (by decide) xt_acp dX0_learn_56 (fun H locs hW => ?_)
        replace hW : xt_W D A ss.heap (xX ad cI cL S K n wc dn (fun j => if j < 36 then lv j else w j) lv sy sb sh rw rk dr) H locs := hW
        refine lv_aload_n C.1 C.2.1 dX0_learn_59 rfl (lv_at hl 2 rfl) ?_
        refine xt_cvd hA hW (xt_runV C hW.1 hW.2.1 cwX0_X0_reckon (cx_reckon l D cI cL ad S K n wc dn (fun j => if j < 36 then lv j else w j) lv sy sb sh rw rk dr (by omega) (by omega) (by omega) (fun i h => by show (if i < 36 then lv i else w i) ≤ 9; rw [if_pos h]; exact g2 i h) (hsy)) rfl rfl rfl hl.1 (rest := []) rfl (Nat.le_of_ble_eq_true rfl) ⟨(Nat.le_of_ble_eq_true rfl), (Nat.le_of_ble_eq_true rfl)⟩ ⟨Nat.zero_le _, Nat.zero_le _⟩ dX0_learn_60) (fun u H locs hp60 hW => ?_)
        obtain ⟨sb_60, sh_60, wc_60, rw_60, rk_60⟩ := u
        replace hW : xt_W D A ss.heap (xX ad cI cL S K n wc_60 dn (fun j => if j < 36 then lv j else w j) lv sy sb_60 sh_60 rw_60 rk_60 dr) H locs := hW
        replace hp60 : xq_ok S n (fun j => if j < 36 then lv j else w j) sy sb_60 sh_60 wc_60 rw_60 rk_60 := hp60
        refine W.eq (g2 := F0 mi 63 ls []) rfl ?_
        refine lv_iload_n C.1 C.2.1 dX0_learn_63 rfl (lv_at hl 1 rfl) ?_
        exact xt_iret C hE (fun j => if j < 36 then lv j else w j, lv, sb_60, sh_60, wc_60, rw_60, rk_60) hW (⟨by show nI (ms_sum _ a) = nI _; rw [show a = 3 by omega]; rfl, fun z1 z2 z3 hk => (by show (if _ < 36 then lv _ else w _) = _; rw [if_pos (xq_slb hS3 hK4 hk)]; exact g1 z1 z2 z3 (by have := (xq_kcr hk).1; omega) (xq_kcr hk).2.1 (xq_kcr hk).2.2), fun z1 h => (by show (if z1 < 36 then lv z1 else w z1) ≤ 9; rw [if_pos h]; exact g2 z1 h), g2, hp60⟩) dX0_learn_64
      · refine xt_iconst C 0 dX0_learn_9 (by decide +kernel) ?_
        refine lv_istore_n C.1 C.2.1 dX0_learn_10 rfl hl (by decide) rfl (fun ls hl => ?_)
        replace hl : lv_has ls 4 [(3, .int (nI 0)), (2, .int (nI a)), (1, .int (nI (ms_sum (fun z1 => ms_sum (fun z2 => ms_sum (fun z3 => xq_lv S K n w sy z1 z2 z3) (xq_cl S K z1)) (xq_rw S z1)) a))), (0, .ref (ad 0))] := hl
        have lp11 : ∀ (q : Nat) (b : Nat) (lv2 : Nat → Nat), xq_rw S a - b = q → (b ≤ xq_rw S a) → (∀ z1 z2 z3, (z1 < a ∨ (z1 = a ∧ z2 < b)) → z2 < xq_rw S z1 → z3 < xq_cl S K z1 → lv2 ((z1 * 3 + z2) * 4 + z3) = xq_lv S K n w sy z1 z2 z3) → (∀ z1, z1 < 36 → lv2 z1 ≤ 9) → ∀ (ls : Array Slot) (H : Heap) (locs : List Loc), lv_has ls 4 [(3, .int (nI b)), (2, .int (nI a)), (1, .int (nI (ms_sum (fun z1 => ms_sum (fun z2 => ms_sum (fun z3 => xq_lv S K n w sy z1 z2 z3) (xq_cl S K z1)) (xq_rw S z1)) a + ms_sum (fun z2 => ms_sum (fun z3 => xq_lv S K n w sy a z2 z3) (xq_cl S K a)) b))), (0, .ref (ad 0))] → xt_W D A ss.heap (xX ad cI cL S K n wc dn w lv2 sy sb sh rw rk dr) H locs → W pg l ev (xt_R 10) ss mi args below meth cd H locs 0 0 Q (F0 mi 11 ls []) := by
          intro q
          induction q using Nat.strongRecOn with
          | _ q ih11 =>
            intro b lv2 hq11 hb g3 g4 ls H locs hl hW
            refine lv_iload_n C.1 C.2.1 dX0_learn_11 rfl (lv_at hl 0 rfl) ?_
            have hrb := xq_rwb (a := a) hS0 hS3
            refine lv_aload_n C.1 C.2.1 dX0_learn_12 rfl (lv_at hl 3 rfl) ?_
            refine lv_iload_n C.1 C.2.1 dX0_learn_13 rfl (lv_at hl 1 rfl) ?_
            refine xt_ci hA hW (xt_runV C hW.1 hW.2.1 cwX0_X0_rowsOf (cx_rowsOf l D cI cL ad S K n wc dn w lv2 sy sb sh rw rk dr (nI a)) rfl rfl rfl hl.1 (rest := [.int (nI b)]) rfl (Nat.le_of_ble_eq_true rfl) ⟨(Nat.le_of_ble_eq_true rfl), (Nat.le_of_ble_eq_true rfl)⟩ ⟨Nat.zero_le _, Nat.zero_le _⟩ dX0_learn_14) (fun r14 u H locs hp14 hW => ?_)
            replace hW : xt_W D A ss.heap (xX ad cI cL S K n wc dn w lv2 sy sb sh rw rk dr) H locs := hW
            replace hp14 : ((nI a) = nI 0 ∧ r14 = nI 1) ∨ ((nI a) = nI 1 ∧ r14 = nI S) ∨ ((nI a) = nI 2 ∧ r14 = nI S) ∨ (¬ (nI a) = nI 0 ∧ ¬ (nI a) = nI 1 ∧ ¬ (nI a) = nI 2 ∧ r14 = nI 0) := hp14
            replace hp14 := xq_rows (by omega) hp14
            subst hp14
            refine xt_icmp_ge C (by omega) (by omega) dX0_learn_17 (tgt := 35) (by decide) (fun h17 => ?_) (fun h17 => ?_)
            · refine lv_iinc (k := 1) C.1 C.2.1 dX0_learn_35 hl rfl xt_inc (by decide) rfl (fun ls hl => ?_)
              replace hl : lv_has ls 4 [(2, .int (nI (a + 1))), (3, .int (nI b)), (1, .int (nI (ms_sum (fun z1 => ms_sum (fun z2 => ms_sum (fun z3 => xq_lv S K n w sy z1 z2 z3) (xq_cl S K z1)) (xq_rw S z1)) a + ms_sum (fun z2 => ms_sum (fun z3 => xq_lv S K n w sy a z2 z3) (xq_cl S K a)) b))), (0, .ref (ad 0))] := hl
              refine lv_goto C.1 C.2.1 dX0_learn_38 (tgt := 4) (by decide) ?_
              rw [show b = xq_rw S a by omega] at hl
              replace hl : lv_has ls 4 [(2, .int (nI (a + 1))), (3, .int (nI (xq_rw S a))), (1, .int (nI (ms_sum (fun z1 => ms_sum (fun z2 => ms_sum (fun z3 => xq_lv S K n w sy z1 z2 z3) (xq_cl S K z1)) (xq_rw S z1)) (a + 1)))), (0, .ref (ad 0))] := hl
              exact ih4 _ (by omega) (a + 1) lv2 rfl (by omega) (fun z1 z2 z3 h5 h6 h7 => g3 z1 z2 z3 (if e : z1 = a then Or.inr ⟨e, by subst e; omega⟩ else Or.inl (by omega)) h6 h7) (g4) ls _ _ (lv_sub hl [0, 2, 3] rfl) hW
            · refine lv_iload_n C.1 C.2.1 dX0_learn_20 rfl (lv_at hl 2 rfl) ?_
              refine lv_aload_n C.1 C.2.1 dX0_learn_21 rfl (lv_at hl 3 rfl) ?_
              refine lv_iload_n C.1 C.2.1 dX0_learn_22 rfl (lv_at hl 1 rfl) ?_
              refine lv_iload_n C.1 C.2.1 dX0_learn_23 rfl (lv_at hl 0 rfl) ?_
              refine xt_ci hA hW (xt_runV C hW.1 hW.2.1 cwX0_X0_learnRow (cx_learnRow l D cI cL ad S K n wc dn w lv2 sy sb sh rw rk dr a b (xq_Vlw hV2 g4) (by omega) (by omega)) rfl rfl rfl hl.1 (rest := [.int (nI (ms_sum (fun z1 => ms_sum (fun z2 => ms_sum (fun z3 => xq_lv S K n w sy z1 z2 z3) (xq_cl S K z1)) (xq_rw S z1)) a + ms_sum (fun z2 => ms_sum (fun z3 => xq_lv S K n w sy a z2 z3) (xq_cl S K a)) b))]) rfl (Nat.le_of_ble_eq_true rfl) ⟨(Nat.le_of_ble_eq_true rfl), (Nat.le_of_ble_eq_true rfl)⟩ ⟨Nat.zero_le _, Nat.zero_le _⟩ dX0_learn_24) (fun r24 u H locs hp24 hW => ?_)
              obtain ⟨lw_24, rfl⟩ : ∃ z, z = u := ⟨_, rfl⟩
              replace hW : xt_W D A ss.heap (xX ad cI cL S K n wc dn w lw_24 sy sb sh rw rk dr) H locs := hW
              replace hp24 : r24 = nI (ms_sum (fun z1 => xq_lv S K n w sy a b z1) (xq_cl S K a)) ∧ (∀ z1, z1 < xq_cl S K a → lw_24 ((a * 3 + b) * 4 + z1) = xq_lv S K n w sy a b z1) ∧ (∀ z2, (∀ z1, z1 < xq_cl S K a → z2 ≠ (a * 3 + b) * 4 + z1) → lw_24 z2 = lv2 z2) ∧ (∀ z2, z2 < 36 → lw_24 z2 ≤ 9) := hp24
              obtain ⟨rfl, hp24⟩ := hp24
              refine xt_iadd C dX0_learn_27 ?_
              refine lv_istore_n C.1 C.2.1 dX0_learn_28 rfl hl (by decide) rfl (fun ls hl => ?_)
              replace hl : lv_has ls 4 [(1, .int (nI ((ms_sum (fun z1 => ms_sum (fun z2 => ms_sum (fun z3 => xq_lv S K n w sy z1 z2 z3) (xq_cl S K z1)) (xq_rw S z1)) a + ms_sum (fun z2 => ms_sum (fun z3 => xq_lv S K n w sy a z2 z3) (xq_cl S K a)) b) + (ms_sum (fun z1 => xq_lv S K n w sy a b z1) (xq_cl S K a))))), (3, .int (nI b)), (2, .int (nI a)), (0, .ref (ad 0))] := hl
              refine lv_iinc (k := 1) C.1 C.2.1 dX0_learn_29 hl rfl xt_inc (by decide) rfl (fun ls hl => ?_)
              replace hl : lv_has ls 4 [(3, .int (nI (b + 1))), (1, .int (nI ((ms_sum (fun z1 => ms_sum (fun z2 => ms_sum (fun z3 => xq_lv S K n w sy z1 z2 z3) (xq_cl S K z1)) (xq_rw S z1)) a + ms_sum (fun z2 => ms_sum (fun z3 => xq_lv S K n w sy a z2 z3) (xq_cl S K a)) b) + (ms_sum (fun z1 => xq_lv S K n w sy a b z1) (xq_cl S K a))))), (2, .int (nI a)), (0, .ref (ad 0))] := hl
              refine lv_goto C.1 C.2.1 dX0_learn_32 (tgt := 11) (by decide) ?_
              rw [Nat.add_assoc] at hl
              replace hl : lv_has ls 4 [(3, .int (nI (b + 1))), (1, .int (nI (ms_sum (fun z1 => ms_sum (fun z2 => ms_sum (fun z3 => xq_lv S K n w sy z1 z2 z3) (xq_cl S K z1)) (xq_rw S z1)) a + ms_sum (fun z2 => ms_sum (fun z3 => xq_lv S K n w sy a z2 z3) (xq_cl S K a)) (b + 1)))), (2, .int (nI a)), (0, .ref (ad 0))] := hl
              exact ih11 _ (by omega) (b + 1) lw_24 rfl (by omega) (xq_lrn hS0 hS3 hK4 (by omega) g3 hp24.1 hp24.2.1) (hp24.2.2) ls _ _ (lv_sub hl [0, 2, 1, 3] rfl) hW
        exact lp11 _ 0 lv rfl (Nat.zero_le _) (fun z1 z2 z3 h5 h6 h7 => g1 z1 z2 z3 (by omega) h6 h7) (g2) ls _ _ (lv_sub hl [0, 1, 2, 3] rfl) hW
  exact lp4 _ 0 lw rfl (Nat.zero_le _) (fun z1 _ _ h _ _ => absurd h (Nat.not_lt_zero z1)) (hlw) ls _ _ (lv_sub hl [0, 1, 2] rfl) hW
set_option maxHeartbeats 4000000 in
set_option maxRecDepth 100000 in
theorem cx_share_y (l : Launch) (D : va_G) (cI cL : ClassId) (ad : Nat → Nat) (S K n wc dn : Nat) (w lw sy sb sh rw rk dr : Nat → Nat) (ka : Nat) (kb : Nat) (kc : Nat) (x : Int32) (hV : xq_V S K n wc w lw sy sb sh rw rk) (hs : xq_sr S K n ka kb kc) : xt_M l yX0_share cX0_share 6 (some .long) 4 D cI cL [.ref (ad 0), .int (nI ka), .int (nI kb), .int (nI kc), .int x] (xX ad cI cL S K n wc dn w lw sy sb sh rw rk dr) (xt_Ql D cI cL (xX ad cI cL S K n wc dn w lw sy sb sh rw rk dr) (fun (r : Int64) (u : Unit) => r = lN (xq_pt (ms_un (xe w sy) S n sy ka kb kc) (ms_sum (fun z1 => ms_wt (xe w sy) S n z1) (S ^ n)) x)) (fun u => xX ad cI cL S K n wc dn w lw sy sb sh rw rk dr)) := by
  have hV2 := hV
  obtain ⟨hS0, hS3, hK0, hK4, hn6, hw, hlw, hsK, hok⟩ := hV
  have hsy : ∀ p, p < n → sy p < 4 := fun p h => Nat.lt_of_lt_of_le (hsK p h) hK4
  have hsu := hs; unfold xq_sr at hsu
  refine xt_start (own := RX0) rfl (by decide) (Nat.le_of_ble_eq_true rfl) (fun pg ev ss mi args below meth cd A Q ls C hE hA hl hW => ?_)
  replace hl : lv_has ls 6 [(0, .ref (ad 0)), (1, .int (nI ka)), (2, .int (nI kb)), (3, .int (nI kc)), (4, .int x)] := hl
  refine lv_iload_n C.1 C.2.1 dX0_share_0 rfl (lv_at hl 1 rfl) ?_
  refine xt_if_ne C (by omega) dX0_share_1 (tgt := 28) (by decide) (fun h1 => ?_) (fun h1 => ?_)
  · refine lv_aload_n C.1 C.2.1 dX0_share_28 rfl (lv_at hl 0 rfl) ?_
    refine lv_iload_n C.1 C.2.1 dX0_share_29 rfl (lv_at hl 1 rfl) ?_
    refine lv_iload_n C.1 C.2.1 dX0_share_30 rfl (lv_at hl 2 rfl) ?_
    refine lv_iload_n C.1 C.2.1 dX0_share_31 rfl (lv_at hl 3 rfl) ?_
    refine xt_ci hA hW (xt_runV C hW.1 hW.2.1 cwX0_X0_hasWeight (cx_hasWeight l D cI cL ad S K n wc dn w lw sy sb sh rw rk dr (nI ka) (nI kb) (nI kc) (by omega) (by omega)) rfl rfl rfl hl.1 (rest := []) rfl (Nat.le_of_ble_eq_true rfl) ⟨(Nat.le_of_ble_eq_true rfl), (Nat.le_of_ble_eq_true rfl)⟩ ⟨Nat.zero_le _, Nat.zero_le _⟩ dX0_share_32) (fun r32 u H locs hp32 hW => ?_)
    replace hW : xt_W D A ss.heap (xX ad cI cL S K n wc dn w lw sy sb sh rw rk dr) H locs := hW
    replace hp32 : (r32 = nI 1 ∧ ∃ a b c, xt_ok S K (nI ka) (nI kb) (nI kc) a b c) ∨ (r32 = nI 0 ∧ ¬ ∃ a b c, xt_ok S K (nI ka) (nI kb) (nI kc) a b c) := hp32
    rcases hp32 with ⟨rfl, -⟩ | ⟨-, hno⟩
    · replace hl : lv_has ls 6 [(0, .ref (ad 0)), (1, .int (nI ka)), (2, .int (nI kb)), (3, .int (nI kc)), (4, .int x)] := hl
      refine lv_istore C.1 C.2.1 dX0_share_35 hl (by decide) rfl (fun ls hl => ?_)
      replace hl : lv_has ls 6 [(5, .int (nI 1)), (0, .ref (ad 0)), (1, .int (nI ka)), (2, .int (nI kb)), (3, .int (nI kc)), (4, .int x)] := hl
      refine lv_iload C.1 C.2.1 dX0_share_37 (lv_at hl 0 rfl) ?_
      refine xt_if_eq C (by omega) dX0_share_39 (tgt := 61) (by decide) (fun h39 => ?_) (fun h39 => ?_)
      · exfalso
        omega
      · refine lv_aload_n C.1 C.2.1 dX0_share_42 rfl (lv_at hl 1 rfl) ?_
        refine lv_iload_n C.1 C.2.1 dX0_share_43 rfl (lv_at hl 2 rfl) ?_
        refine lv_iload_n C.1 C.2.1 dX0_share_44 rfl (lv_at hl 3 rfl) ?_
        refine lv_iload_n C.1 C.2.1 dX0_share_45 rfl (lv_at hl 4 rfl) ?_
        refine xt_cl hA hW (xt_runV C hW.1 hW.2.1 cwX0_X0_unitsOf (cx_unitsOf l D cI cL ad S K n wc dn w lw sy sb sh rw rk dr ka kb kc (hV2) (xq_sku hn6 hs)) rfl rfl rfl hl.1 (rest := []) rfl (Nat.le_of_ble_eq_true rfl) ⟨(Nat.le_of_ble_eq_true rfl), (Nat.le_of_ble_eq_true rfl)⟩ ⟨Nat.zero_le _, Nat.zero_le _⟩ dX0_share_46) (fun r46 u H locs hp46 hW => ?_)
        replace hW : xt_W D A ss.heap (xX ad cI cL S K n wc dn w lw sy sb sh rw rk dr) H locs := hW
        subst hp46
        refine lv_aload_n C.1 C.2.1 dX0_share_49 rfl (lv_at hl 1 rfl) ?_
        refine xt_cl hA hW (xt_runV C hW.1 hW.2.1 cwX0_X0_total (cx_total l D cI cL ad S K n wc dn w lw sy sb sh rw rk dr (hV2)) rfl rfl rfl hl.1 (rest := [.long (lN (ms_un (xe w sy) S n sy ka kb kc))]) rfl (Nat.le_of_ble_eq_true rfl) ⟨(Nat.le_of_ble_eq_true rfl), (Nat.le_of_ble_eq_true rfl)⟩ ⟨Nat.zero_le _, Nat.zero_le _⟩ dX0_share_50) (fun r50 u H locs hp50 hW => ?_)
        replace hW : xt_W D A ss.heap (xX ad cI cL S K n wc dn w lw sy sb sh rw rk dr) H locs := hW
        subst hp50
        refine lv_iload C.1 C.2.1 dX0_share_53 (lv_at hl 5 rfl) ?_
        refine xt_cl hA hW (xt_runS C hW.1 hW.2.1 cwX0_X0_partOf (cx_partOf l D cI cL (xX ad cI cL S K n wc dn w lw sy sb sh rw rk dr) (ms_un (xe w sy) S n sy ka kb kc) (ms_sum (fun z1 => ms_wt (xe w sy) S n z1) (S ^ n)) x (Nat.lt_of_le_of_lt (xq_unb hS0 hS3 hn6 hw hsy (xq_sku hn6 hs)) (by decide)) (xq_totb hS0 hS3 hn6 hw hsy)) rfl hl.1 (rest := []) rfl (Nat.le_of_ble_eq_true rfl) ⟨(Nat.le_of_ble_eq_true rfl), (Nat.le_of_ble_eq_true rfl)⟩ ⟨Nat.zero_le _, Nat.zero_le _⟩ dX0_share_55) (fun r55 u H locs hp55 hW => ?_)
        replace hW : xt_W D A ss.heap (xX ad cI cL S K n wc dn w lw sy sb sh rw rk dr) H locs := hW
        subst hp55
        refine lv_goto C.1 C.2.1 dX0_share_58 (tgt := 62) (by decide) ?_
        exact xt_lret C hE () hW (rfl) dX0_share_62
    · exact absurd (⟨ka, kb, kc, rfl, rfl, rfl, xq_skr h1 hs⟩) hno
  · refine lv_aload_n C.1 C.2.1 dX0_share_4 rfl (lv_at hl 0 rfl) ?_
    refine lv_iload_n C.1 C.2.1 dX0_share_5 rfl (lv_at hl 2 rfl) ?_
    refine xt_ci hA hW (xt_runV C hW.1 hW.2.1 cwX0_X0_hasPlace (cx_hasPlace l D cI cL ad S K n wc dn w lw sy sb sh rw rk dr (nI kb) (by omega)) rfl rfl rfl hl.1 (rest := []) rfl (Nat.le_of_ble_eq_true rfl) ⟨(Nat.le_of_ble_eq_true rfl), (Nat.le_of_ble_eq_true rfl)⟩ ⟨Nat.zero_le _, Nat.zero_le _⟩ dX0_share_6) (fun r6 u H locs hp6 hW => ?_)
    replace hW : xt_W D A ss.heap (xX ad cI cL S K n wc dn w lw sy sb sh rw rk dr) H locs := hW
    replace hp6 : (r6 = nI 1 ∧ ∃ z1, z1 < n ∧ (nI kb) = nI z1) ∨ (r6 = nI 0 ∧ ¬ ∃ z1, z1 < n ∧ (nI kb) = nI z1) := hp6
    rcases hp6 with ⟨rfl, -⟩ | ⟨-, hno⟩
    · replace hl : lv_has ls 6 [(0, .ref (ad 0)), (1, .int (nI ka)), (2, .int (nI kb)), (3, .int (nI kc)), (4, .int x)] := hl
      refine xt_if_eq C (by omega) dX0_share_9 (tgt := 24) (by decide) (fun h9 => ?_) (fun h9 => ?_)
      · exfalso
        omega
      · refine lv_aload_n C.1 C.2.1 dX0_share_12 rfl (lv_at hl 0 rfl) ?_
        refine lv_iload_n C.1 C.2.1 dX0_share_13 rfl (lv_at hl 3 rfl) ?_
        refine xt_ci hA hW (xt_runV C hW.1 hW.2.1 cwX0_X0_hasState (cx_hasState l D cI cL ad S K n wc dn w lw sy sb sh rw rk dr (nI kc) (by omega)) rfl rfl rfl hl.1 (rest := []) rfl (Nat.le_of_ble_eq_true rfl) ⟨(Nat.le_of_ble_eq_true rfl), (Nat.le_of_ble_eq_true rfl)⟩ ⟨Nat.zero_le _, Nat.zero_le _⟩ dX0_share_14) (fun r14 u H locs hp14 hW => ?_)
        replace hW : xt_W D A ss.heap (xX ad cI cL S K n wc dn w lw sy sb sh rw rk dr) H locs := hW
        replace hp14 : (r14 = nI 1 ∧ ∃ z1, z1 < S ∧ (nI kc) = nI z1) ∨ (r14 = nI 0 ∧ ¬ ∃ z1, z1 < S ∧ (nI kc) = nI z1) := hp14
        rcases hp14 with ⟨rfl, -⟩ | ⟨-, hno⟩
        · replace hl : lv_has ls 6 [(0, .ref (ad 0)), (1, .int (nI ka)), (2, .int (nI kb)), (3, .int (nI kc)), (4, .int x)] := hl
          refine xt_if_eq C (by omega) dX0_share_17 (tgt := 24) (by decide) (fun h17 => ?_) (fun h17 => ?_)
          · exfalso
            omega
          · refine xt_iconst C 1 dX0_share_20 (by decide +kernel) ?_
            refine lv_goto C.1 C.2.1 dX0_share_21 (tgt := 35) (by decide) ?_
            refine lv_istore C.1 C.2.1 dX0_share_35 hl (by decide) rfl (fun ls hl => ?_)
            replace hl : lv_has ls 6 [(5, .int (nI 1)), (0, .ref (ad 0)), (1, .int (nI ka)), (2, .int (nI kb)), (3, .int (nI kc)), (4, .int x)] := hl
            refine lv_iload C.1 C.2.1 dX0_share_37 (lv_at hl 0 rfl) ?_
            refine xt_if_eq C (by omega) dX0_share_39 (tgt := 61) (by decide) (fun h39 => ?_) (fun h39 => ?_)
            · exfalso
              omega
            · refine lv_aload_n C.1 C.2.1 dX0_share_42 rfl (lv_at hl 1 rfl) ?_
              refine lv_iload_n C.1 C.2.1 dX0_share_43 rfl (lv_at hl 2 rfl) ?_
              refine lv_iload_n C.1 C.2.1 dX0_share_44 rfl (lv_at hl 3 rfl) ?_
              refine lv_iload_n C.1 C.2.1 dX0_share_45 rfl (lv_at hl 4 rfl) ?_
              refine xt_cl hA hW (xt_runV C hW.1 hW.2.1 cwX0_X0_unitsOf (cx_unitsOf l D cI cL ad S K n wc dn w lw sy sb sh rw rk dr ka kb kc (hV2) (xq_sku hn6 hs)) rfl rfl rfl hl.1 (rest := []) rfl (Nat.le_of_ble_eq_true rfl) ⟨(Nat.le_of_ble_eq_true rfl), (Nat.le_of_ble_eq_true rfl)⟩ ⟨Nat.zero_le _, Nat.zero_le _⟩ dX0_share_46) (fun r46 u H locs hp46 hW => ?_)
              replace hW : xt_W D A ss.heap (xX ad cI cL S K n wc dn w lw sy sb sh rw rk dr) H locs := hW
              subst hp46
              refine lv_aload_n C.1 C.2.1 dX0_share_49 rfl (lv_at hl 1 rfl) ?_
              refine xt_cl hA hW (xt_runV C hW.1 hW.2.1 cwX0_X0_total (cx_total l D cI cL ad S K n wc dn w lw sy sb sh rw rk dr (hV2)) rfl rfl rfl hl.1 (rest := [.long (lN (ms_un (xe w sy) S n sy ka kb kc))]) rfl (Nat.le_of_ble_eq_true rfl) ⟨(Nat.le_of_ble_eq_true rfl), (Nat.le_of_ble_eq_true rfl)⟩ ⟨Nat.zero_le _, Nat.zero_le _⟩ dX0_share_50) (fun r50 u H locs hp50 hW => ?_)
              replace hW : xt_W D A ss.heap (xX ad cI cL S K n wc dn w lw sy sb sh rw rk dr) H locs := hW
              subst hp50
              refine lv_iload C.1 C.2.1 dX0_share_53 (lv_at hl 5 rfl) ?_
              refine xt_cl hA hW (xt_runS C hW.1 hW.2.1 cwX0_X0_partOf (cx_partOf l D cI cL (xX ad cI cL S K n wc dn w lw sy sb sh rw rk dr) (ms_un (xe w sy) S n sy ka kb kc) (ms_sum (fun z1 => ms_wt (xe w sy) S n z1) (S ^ n)) x (Nat.lt_of_le_of_lt (xq_unb hS0 hS3 hn6 hw hsy (xq_sku hn6 hs)) (by decide)) (xq_totb hS0 hS3 hn6 hw hsy)) rfl hl.1 (rest := []) rfl (Nat.le_of_ble_eq_true rfl) ⟨(Nat.le_of_ble_eq_true rfl), (Nat.le_of_ble_eq_true rfl)⟩ ⟨Nat.zero_le _, Nat.zero_le _⟩ dX0_share_55) (fun r55 u H locs hp55 hW => ?_)
              replace hW : xt_W D A ss.heap (xX ad cI cL S K n wc dn w lw sy sb sh rw rk dr) H locs := hW
              subst hp55
              refine lv_goto C.1 C.2.1 dX0_share_58 (tgt := 62) (by decide) ?_
              exact xt_lret C hE () hW (rfl) dX0_share_62
        · exact absurd (⟨kc, by omega, rfl⟩) hno
    · exact absurd (⟨kb, by omega, rfl⟩) hno
set_option maxHeartbeats 4000000 in
set_option maxRecDepth 100000 in
theorem cx_share_n (l : Launch) (D : va_G) (cI cL : ClassId) (ad : Nat → Nat) (S K n wc dn : Nat) (w lw sy sb sh rw rk dr : Nat → Nat) (kd : Int32) (ro : Int32) (co : Int32) (x : Int32) (hV : xq_V S K n wc w lw sy sb sh rw rk) (hno : ¬ (kd = nI 0 ∧ (∃ j, j < n ∧ ro = nI j) ∧ ∃ j, j < S ∧ co = nI j)) (hnk : ¬ (¬ kd = nI 0 ∧ ∃ a b c, xt_ok S K kd ro co a b c)) : xt_M l yX0_share cX0_share 6 (some .long) 4 D cI cL [.ref (ad 0), .int kd, .int ro, .int co, .int x] (xX ad cI cL S K n wc dn w lw sy sb sh rw rk dr) (xt_Ql D cI cL (xX ad cI cL S K n wc dn w lw sy sb sh rw rk dr) (fun (r : Int64) (u : Unit) => r = lN 0) (fun u => xX ad cI cL S K n wc dn w lw sy sb sh rw rk dr)) := by
  obtain ⟨hS0, hS3, hK0, hK4, hn6, hw, hlw, hsK, hok⟩ := hV
  have hsy : ∀ p, p < n → sy p < 4 := fun p h => Nat.lt_of_lt_of_le (hsK p h) hK4
  refine xt_start (own := RX0) rfl (by decide) (Nat.le_of_ble_eq_true rfl) (fun pg ev ss mi args below meth cd A Q ls C hE hA hl hW => ?_)
  replace hl : lv_has ls 6 [(0, .ref (ad 0)), (1, .int kd), (2, .int ro), (3, .int co), (4, .int x)] := hl
  refine lv_iload_n C.1 C.2.1 dX0_share_0 rfl (lv_at hl 1 rfl) ?_
  refine lv_if_ne C.1 C.2.1 dX0_share_1 (tgt := 28) (by decide) (fun h1 => ?_) (fun h1 => ?_)
  · refine lv_aload_n C.1 C.2.1 dX0_share_28 rfl (lv_at hl 0 rfl) ?_
    refine lv_iload_n C.1 C.2.1 dX0_share_29 rfl (lv_at hl 1 rfl) ?_
    refine lv_iload_n C.1 C.2.1 dX0_share_30 rfl (lv_at hl 2 rfl) ?_
    refine lv_iload_n C.1 C.2.1 dX0_share_31 rfl (lv_at hl 3 rfl) ?_
    refine xt_ci hA hW (xt_runV C hW.1 hW.2.1 cwX0_X0_hasWeight (cx_hasWeight l D cI cL ad S K n wc dn w lw sy sb sh rw rk dr kd ro co (by omega) (by omega)) rfl rfl rfl hl.1 (rest := []) rfl (Nat.le_of_ble_eq_true rfl) ⟨(Nat.le_of_ble_eq_true rfl), (Nat.le_of_ble_eq_true rfl)⟩ ⟨Nat.zero_le _, Nat.zero_le _⟩ dX0_share_32) (fun r32 u H locs hp32 hW => ?_)
    replace hW : xt_W D A ss.heap (xX ad cI cL S K n wc dn w lw sy sb sh rw rk dr) H locs := hW
    replace hp32 : (r32 = nI 1 ∧ ∃ a b c, xt_ok S K kd ro co a b c) ∨ (r32 = nI 0 ∧ ¬ ∃ a b c, xt_ok S K kd ro co a b c) := hp32
    rcases hp32 with ⟨-, hz⟩ | ⟨rfl, -⟩
    · exact absurd ⟨fun q => h1 (by rw [q]; exact nI_0), hz⟩ hnk
    · replace hl : lv_has ls 6 [(0, .ref (ad 0)), (1, .int kd), (2, .int ro), (3, .int co), (4, .int x)] := hl
      refine lv_istore C.1 C.2.1 dX0_share_35 hl (by decide) rfl (fun ls hl => ?_)
      replace hl : lv_has ls 6 [(5, .int (nI 0)), (0, .ref (ad 0)), (1, .int kd), (2, .int ro), (3, .int co), (4, .int x)] := hl
      refine lv_iload C.1 C.2.1 dX0_share_37 (lv_at hl 0 rfl) ?_
      refine xt_if_eq C (by omega) dX0_share_39 (tgt := 61) (by decide) (fun h39 => ?_) (fun h39 => ?_)
      · refine xt_lconst C 0 dX0_share_61 (by decide +kernel) ?_
        exact xt_lret C hE () hW (rfl) dX0_share_62
      · exfalso
        omega
  · refine lv_aload_n C.1 C.2.1 dX0_share_4 rfl (lv_at hl 0 rfl) ?_
    refine lv_iload_n C.1 C.2.1 dX0_share_5 rfl (lv_at hl 2 rfl) ?_
    refine xt_ci hA hW (xt_runV C hW.1 hW.2.1 cwX0_X0_hasPlace (cx_hasPlace l D cI cL ad S K n wc dn w lw sy sb sh rw rk dr ro (by omega)) rfl rfl rfl hl.1 (rest := []) rfl (Nat.le_of_ble_eq_true rfl) ⟨(Nat.le_of_ble_eq_true rfl), (Nat.le_of_ble_eq_true rfl)⟩ ⟨Nat.zero_le _, Nat.zero_le _⟩ dX0_share_6) (fun r6 u H locs hp6 hW => ?_)
    replace hW : xt_W D A ss.heap (xX ad cI cL S K n wc dn w lw sy sb sh rw rk dr) H locs := hW
    replace hp6 : (r6 = nI 1 ∧ ∃ z1, z1 < n ∧ ro = nI z1) ∨ (r6 = nI 0 ∧ ¬ ∃ z1, z1 < n ∧ ro = nI z1) := hp6
    rcases hp6 with ⟨rfl, hy1⟩ | ⟨rfl, -⟩
    · replace hl : lv_has ls 6 [(0, .ref (ad 0)), (1, .int kd), (2, .int ro), (3, .int co), (4, .int x)] := hl
      refine xt_if_eq C (by omega) dX0_share_9 (tgt := 24) (by decide) (fun h9 => ?_) (fun h9 => ?_)
      · exfalso
        omega
      · refine lv_aload_n C.1 C.2.1 dX0_share_12 rfl (lv_at hl 0 rfl) ?_
        refine lv_iload_n C.1 C.2.1 dX0_share_13 rfl (lv_at hl 3 rfl) ?_
        refine xt_ci hA hW (xt_runV C hW.1 hW.2.1 cwX0_X0_hasState (cx_hasState l D cI cL ad S K n wc dn w lw sy sb sh rw rk dr co (by omega)) rfl rfl rfl hl.1 (rest := []) rfl (Nat.le_of_ble_eq_true rfl) ⟨(Nat.le_of_ble_eq_true rfl), (Nat.le_of_ble_eq_true rfl)⟩ ⟨Nat.zero_le _, Nat.zero_le _⟩ dX0_share_14) (fun r14 u H locs hp14 hW => ?_)
        replace hW : xt_W D A ss.heap (xX ad cI cL S K n wc dn w lw sy sb sh rw rk dr) H locs := hW
        replace hp14 : (r14 = nI 1 ∧ ∃ z1, z1 < S ∧ co = nI z1) ∨ (r14 = nI 0 ∧ ¬ ∃ z1, z1 < S ∧ co = nI z1) := hp14
        rcases hp14 with ⟨-, hz⟩ | ⟨rfl, -⟩
        · exact absurd (⟨by rw [nI_0]; exact h1, hy1, hz⟩) hno
        · replace hl : lv_has ls 6 [(0, .ref (ad 0)), (1, .int kd), (2, .int ro), (3, .int co), (4, .int x)] := hl
          refine xt_if_eq C (by omega) dX0_share_17 (tgt := 24) (by decide) (fun h17 => ?_) (fun h17 => ?_)
          · refine xt_iconst C 0 dX0_share_24 (by decide +kernel) ?_
            refine lv_goto C.1 C.2.1 dX0_share_25 (tgt := 35) (by decide) ?_
            refine lv_istore C.1 C.2.1 dX0_share_35 hl (by decide) rfl (fun ls hl => ?_)
            replace hl : lv_has ls 6 [(5, .int (nI 0)), (0, .ref (ad 0)), (1, .int kd), (2, .int ro), (3, .int co), (4, .int x)] := hl
            refine lv_iload C.1 C.2.1 dX0_share_37 (lv_at hl 0 rfl) ?_
            refine xt_if_eq C (by omega) dX0_share_39 (tgt := 61) (by decide) (fun h39 => ?_) (fun h39 => ?_)
            · refine xt_lconst C 0 dX0_share_61 (by decide +kernel) ?_
              exact xt_lret C hE () hW (rfl) dX0_share_62
            · exfalso
              omega
          · exfalso
            omega
    · replace hl : lv_has ls 6 [(0, .ref (ad 0)), (1, .int kd), (2, .int ro), (3, .int co), (4, .int x)] := hl
      refine xt_if_eq C (by omega) dX0_share_9 (tgt := 24) (by decide) (fun h9 => ?_) (fun h9 => ?_)
      · refine xt_iconst C 0 dX0_share_24 (by decide +kernel) ?_
        refine lv_goto C.1 C.2.1 dX0_share_25 (tgt := 35) (by decide) ?_
        refine lv_istore C.1 C.2.1 dX0_share_35 hl (by decide) rfl (fun ls hl => ?_)
        replace hl : lv_has ls 6 [(5, .int (nI 0)), (0, .ref (ad 0)), (1, .int kd), (2, .int ro), (3, .int co), (4, .int x)] := hl
        refine lv_iload C.1 C.2.1 dX0_share_37 (lv_at hl 0 rfl) ?_
        refine xt_if_eq C (by omega) dX0_share_39 (tgt := 61) (by decide) (fun h39 => ?_) (fun h39 => ?_)
        · refine xt_lconst C 0 dX0_share_61 (by decide +kernel) ?_
          exact xt_lret C hE () hW (rfl) dX0_share_62
        · exfalso
          omega
      · exfalso
        omega
set_option maxHeartbeats 4000000 in
set_option maxRecDepth 100000 in
theorem cx_learned_y (l : Launch) (D : va_G) (cI cL : ClassId) (ad : Nat → Nat) (S K n wc dn : Nat) (w lw sy sb sh rw rk dr : Nat → Nat) (ka : Nat) (kb : Nat) (kc : Nat) (x : Int32) (hV : xq_V S K n wc w lw sy sb sh rw rk) (hk : xq_kr S K ka kb kc) : xt_M l yX0_learned cX0_learned 7 (some .long) 5 D cI cL [.ref (ad 0), .int (nI ka), .int (nI kb), .int (nI kc), .int x] (xX ad cI cL S K n wc dn w lw sy sb sh rw rk dr) (xt_Ql D cI cL (xX ad cI cL S K n wc dn w lw sy sb sh rw rk dr) (fun (r : Int64) (u : Unit) => r = lN (xq_pt (xq_po S K n w sy ka kb kc) (xq_wh S K n w sy ka kb) x)) (fun u => xX ad cI cL S K n wc dn w lw sy sb sh rw rk dr)) := by
  have hV2 := hV
  obtain ⟨hS0, hS3, hK0, hK4, hn6, hw, hlw, hsK, hok⟩ := hV
  have hsy : ∀ p, p < n → sy p < 4 := fun p h => Nat.lt_of_lt_of_le (hsK p h) hK4
  obtain ⟨ha3, hbr, hck⟩ := xq_kcr hk
  have hwhb := xq_whb (n := n) (K := K) hS0 hS3 hK4 hn6 hw hsy ha3 hbr
  have hpob := xq_pow (S := S) (K := K) (n := n) (w := w) (sy := sy) (a := ka) (b := kb) hck
  refine xt_start (own := RX0) rfl (by decide) (Nat.le_of_ble_eq_true rfl) (fun pg ev ss mi args below meth cd A Q ls C hE hA hl hW => ?_)
  replace hl : lv_has ls 7 [(0, .ref (ad 0)), (1, .int (nI ka)), (2, .int (nI kb)), (3, .int (nI kc)), (4, .int x)] := hl
  refine lv_aload_n C.1 C.2.1 dX0_learned_0 rfl (lv_at hl 0 rfl) ?_
  refine lv_iload_n C.1 C.2.1 dX0_learned_1 rfl (lv_at hl 1 rfl) ?_
  refine lv_iload_n C.1 C.2.1 dX0_learned_2 rfl (lv_at hl 2 rfl) ?_
  refine lv_iload_n C.1 C.2.1 dX0_learned_3 rfl (lv_at hl 3 rfl) ?_
  refine xt_ci hA hW (xt_runV C hW.1 hW.2.1 cwX0_X0_hasWeight (cx_hasWeight l D cI cL ad S K n wc dn w lw sy sb sh rw rk dr (nI ka) (nI kb) (nI kc) (by omega) (by omega)) rfl rfl rfl hl.1 (rest := []) rfl (Nat.le_of_ble_eq_true rfl) ⟨(Nat.le_of_ble_eq_true rfl), (Nat.le_of_ble_eq_true rfl)⟩ ⟨Nat.zero_le _, Nat.zero_le _⟩ dX0_learned_4) (fun r4 u H locs hp4 hW => ?_)
  replace hW : xt_W D A ss.heap (xX ad cI cL S K n wc dn w lw sy sb sh rw rk dr) H locs := hW
  replace hp4 : (r4 = nI 1 ∧ ∃ a b c, xt_ok S K (nI ka) (nI kb) (nI kc) a b c) ∨ (r4 = nI 0 ∧ ¬ ∃ a b c, xt_ok S K (nI ka) (nI kb) (nI kc) a b c) := hp4
  rcases hp4 with ⟨rfl, -⟩ | ⟨-, hno⟩
  · replace hl : lv_has ls 7 [(0, .ref (ad 0)), (1, .int (nI ka)), (2, .int (nI kb)), (3, .int (nI kc)), (4, .int x)] := hl
    refine xt_if_ne C (by omega) dX0_learned_7 (tgt := 12) (by decide) (fun h7 => ?_) (fun h7 => ?_)
    · refine lv_aload_n C.1 C.2.1 dX0_learned_12 rfl (lv_at hl 0 rfl) ?_
      refine lv_iload_n C.1 C.2.1 dX0_learned_13 rfl (lv_at hl 1 rfl) ?_
      refine lv_iload_n C.1 C.2.1 dX0_learned_14 rfl (lv_at hl 2 rfl) ?_
      refine xt_cl hA hW (xt_runV C hW.1 hW.2.1 cwX0_X0_unitsOfRow (cx_unitsOfRow l D cI cL ad S K n wc dn w lw sy sb sh rw rk dr ka kb (hV2) (by omega) (by omega)) rfl rfl rfl hl.1 (rest := []) rfl (Nat.le_of_ble_eq_true rfl) ⟨(Nat.le_of_ble_eq_true rfl), (Nat.le_of_ble_eq_true rfl)⟩ ⟨Nat.zero_le _, Nat.zero_le _⟩ dX0_learned_15) (fun r15 u H locs hp15 hW => ?_)
      replace hW : xt_W D A ss.heap (xX ad cI cL S K n wc dn w lw sy sb sh rw rk dr) H locs := hW
      subst hp15
      refine lv_lstore C.1 C.2.1 dX0_learned_18 hl (by decide) rfl (fun ls hl => ?_)
      replace hl : lv_has ls 7 [(5, .long (lN (xq_ru S K n w sy ka kb))), (0, .ref (ad 0)), (1, .int (nI ka)), (2, .int (nI kb)), (3, .int (nI kc)), (4, .int x)] := hl
      refine lv_aload_n C.1 C.2.1 dX0_learned_20 rfl (lv_at hl 1 rfl) ?_
      refine lv_iload_n C.1 C.2.1 dX0_learned_21 rfl (lv_at hl 2 rfl) ?_
      refine lv_iload_n C.1 C.2.1 dX0_learned_22 rfl (lv_at hl 3 rfl) ?_
      refine lv_iload_n C.1 C.2.1 dX0_learned_23 rfl (lv_at hl 4 rfl) ?_
      refine lv_lload C.1 C.2.1 dX0_learned_24 (lv_at hl 0 rfl) ?_
      refine xt_cl hA hW (xt_runV C hW.1 hW.2.1 cwX0_X0_learnedPortion (cx_learnedPortion l D cI cL ad S K n wc dn w lw sy sb sh rw rk dr ka kb kc (xq_ru S K n w sy ka kb) (hV2) (by omega) (by omega) (by omega) (rfl)) rfl rfl rfl hl.1 (rest := []) rfl (Nat.le_of_ble_eq_true rfl) ⟨(Nat.le_of_ble_eq_true rfl), (Nat.le_of_ble_eq_true rfl)⟩ ⟨Nat.zero_le _, Nat.zero_le _⟩ dX0_learned_26) (fun r26 u H locs hp26 hW => ?_)
      replace hW : xt_W D A ss.heap (xX ad cI cL S K n wc dn w lw sy sb sh rw rk dr) H locs := hW
      subst hp26
      refine lv_aload_n C.1 C.2.1 dX0_learned_29 rfl (lv_at hl 1 rfl) ?_
      refine W.eq (g2 := F0 mi 30 ls [.ref (ad 0), .long (lN (xq_po S K n w sy ka kb kc))]) rfl ?_
      refine lv_iload_n C.1 C.2.1 dX0_learned_30 rfl (lv_at hl 2 rfl) ?_
      refine lv_iload_n C.1 C.2.1 dX0_learned_31 rfl (lv_at hl 3 rfl) ?_
      refine lv_lload C.1 C.2.1 dX0_learned_32 (lv_at hl 0 rfl) ?_
      refine xt_cl hA hW (xt_runV C hW.1 hW.2.1 cwX0_X0_learnedWhole (cx_learnedWhole l D cI cL ad S K n wc dn w lw sy sb sh rw rk dr ka kb (xq_ru S K n w sy ka kb) (hV2) (by omega) (by omega) (rfl)) rfl rfl rfl hl.1 (rest := [.long (lN (xq_po S K n w sy ka kb kc))]) rfl (Nat.le_of_ble_eq_true rfl) ⟨(Nat.le_of_ble_eq_true rfl), (Nat.le_of_ble_eq_true rfl)⟩ ⟨Nat.zero_le _, Nat.zero_le _⟩ dX0_learned_34) (fun r34 u H locs hp34 hW => ?_)
      replace hW : xt_W D A ss.heap (xX ad cI cL S K n wc dn w lw sy sb sh rw rk dr) H locs := hW
      subst hp34
      refine lv_iload C.1 C.2.1 dX0_learned_37 (lv_at hl 5 rfl) ?_
      refine xt_cl hA hW (xt_runS C hW.1 hW.2.1 cwX0_X0_partOf (cx_partOf l D cI cL (xX ad cI cL S K n wc dn w lw sy sb sh rw rk dr) (xq_po S K n w sy ka kb kc) (xq_wh S K n w sy ka kb) x (by omega) (by omega)) rfl hl.1 (rest := []) rfl (Nat.le_of_ble_eq_true rfl) ⟨(Nat.le_of_ble_eq_true rfl), (Nat.le_of_ble_eq_true rfl)⟩ ⟨Nat.zero_le _, Nat.zero_le _⟩ dX0_learned_39) (fun r39 u H locs hp39 hW => ?_)
      replace hW : xt_W D A ss.heap (xX ad cI cL S K n wc dn w lw sy sb sh rw rk dr) H locs := hW
      subst hp39
      exact xt_lret C hE () hW (rfl) dX0_learned_42
    · exfalso
      omega
  · exact absurd (⟨ka, kb, kc, rfl, rfl, rfl, hk⟩) hno
set_option maxHeartbeats 4000000 in
set_option maxRecDepth 100000 in
theorem cx_learned_n (l : Launch) (D : va_G) (cI cL : ClassId) (ad : Nat → Nat) (S K n wc dn : Nat) (w lw sy sb sh rw rk dr : Nat → Nat) (kd : Int32) (ro : Int32) (co : Int32) (x : Int32) (hV : xq_V S K n wc w lw sy sb sh rw rk) (hno : ¬ ∃ a b c, xt_ok S K kd ro co a b c) : xt_M l yX0_learned cX0_learned 7 (some .long) 5 D cI cL [.ref (ad 0), .int kd, .int ro, .int co, .int x] (xX ad cI cL S K n wc dn w lw sy sb sh rw rk dr) (xt_Ql D cI cL (xX ad cI cL S K n wc dn w lw sy sb sh rw rk dr) (fun (r : Int64) (u : Unit) => r = lN 0) (fun u => xX ad cI cL S K n wc dn w lw sy sb sh rw rk dr)) := by
  obtain ⟨hS0, hS3, hK0, hK4, hn6, hw, hlw, hsK, hok⟩ := hV
  have hsy : ∀ p, p < n → sy p < 4 := fun p h => Nat.lt_of_lt_of_le (hsK p h) hK4
  refine xt_start (own := RX0) rfl (by decide) (Nat.le_of_ble_eq_true rfl) (fun pg ev ss mi args below meth cd A Q ls C hE hA hl hW => ?_)
  replace hl : lv_has ls 7 [(0, .ref (ad 0)), (1, .int kd), (2, .int ro), (3, .int co), (4, .int x)] := hl
  refine lv_aload_n C.1 C.2.1 dX0_learned_0 rfl (lv_at hl 0 rfl) ?_
  refine lv_iload_n C.1 C.2.1 dX0_learned_1 rfl (lv_at hl 1 rfl) ?_
  refine lv_iload_n C.1 C.2.1 dX0_learned_2 rfl (lv_at hl 2 rfl) ?_
  refine lv_iload_n C.1 C.2.1 dX0_learned_3 rfl (lv_at hl 3 rfl) ?_
  refine xt_ci hA hW (xt_runV C hW.1 hW.2.1 cwX0_X0_hasWeight (cx_hasWeight l D cI cL ad S K n wc dn w lw sy sb sh rw rk dr kd ro co (by omega) (by omega)) rfl rfl rfl hl.1 (rest := []) rfl (Nat.le_of_ble_eq_true rfl) ⟨(Nat.le_of_ble_eq_true rfl), (Nat.le_of_ble_eq_true rfl)⟩ ⟨Nat.zero_le _, Nat.zero_le _⟩ dX0_learned_4) (fun r4 u H locs hp4 hW => ?_)
  replace hW : xt_W D A ss.heap (xX ad cI cL S K n wc dn w lw sy sb sh rw rk dr) H locs := hW
  replace hp4 : (r4 = nI 1 ∧ ∃ a b c, xt_ok S K kd ro co a b c) ∨ (r4 = nI 0 ∧ ¬ ∃ a b c, xt_ok S K kd ro co a b c) := hp4
  rcases hp4 with ⟨-, hz⟩ | ⟨rfl, -⟩
  · exact absurd (hz) hno
  · replace hl : lv_has ls 7 [(0, .ref (ad 0)), (1, .int kd), (2, .int ro), (3, .int co), (4, .int x)] := hl
    refine xt_if_ne C (by omega) dX0_learned_7 (tgt := 12) (by decide) (fun h7 => ?_) (fun h7 => ?_)
    · exfalso
      omega
    · refine xt_lconst C 0 dX0_learned_10 (by decide +kernel) ?_
      exact xt_lret C hE () hW (rfl) dX0_learned_11
set_option maxHeartbeats 4000000 in
set_option maxRecDepth 100000 in
theorem cx_draw_y (l : Launch) (D : va_G) (cI cL : ClassId) (ad : Nat → Nat) (S K n wc dn : Nat) (w lw sy sb sh rw rk dr : Nat → Nat) (v : Nat) (hV : xq_V S K n wc w lw sy sb sh rw rk) (hvt : v < ms_sum (fun z1 => ms_wt (xe w sy) S n z1) (S ^ n)) : xt_M l yX0_draw cX0_draw 12 (some .boolean) 2 D cI cL [.ref (ad 0), .long (lN v)] (xX ad cI cL S K n wc dn w lw sy sb sh rw rk dr) (xt_Qi D cI cL (xX ad cI cL S K n wc dn w lw sy sb sh rw rk dr) (fun (r : Int32) (u : (Nat → Nat)) => r = nI 1 ∧ ∃ z3, z3 < S ^ n ∧ ms_sum (fun z1 => ms_wt (xe w sy) S n z1) z3 ≤ v ∧ v < ms_sum (fun z1 => ms_wt (xe w sy) S n z1) (z3 + 1) ∧ ∀ z2, z2 < n → u z2 = ms_dg S n z3 z2) (fun u => xX ad cI cL S K n wc n w lw sy sb sh rw rk u)) := by
  have hV2 := hV
  obtain ⟨hS0, hS3, hK0, hK4, hn6, hw, hlw, hsK, hok⟩ := hV
  have hsy : ∀ p, p < n → sy p < 4 := fun p h => Nat.lt_of_lt_of_le (hsK p h) hK4
  have htb := xq_totb (n := n) hS0 hS3 hn6 hw hsy
  have hvb : v < 2 ^ 63 := Nat.lt_trans hvt htb
  refine xt_start (own := RX0) rfl (by decide) (Nat.le_of_ble_eq_true rfl) (fun pg ev ss mi args below meth cd A Q ls C hE hA hl hW => ?_)
  replace hl : lv_has ls 12 [(0, .ref (ad 0)), (1, .long (lN v))] := hl
  refine lv_lload_n C.1 C.2.1 dX0_draw_0 rfl (lv_at hl 1 rfl) ?_
  refine xt_lconst C 0 dX0_draw_1 (by decide +kernel) ?_
  refine xt_l_lt C (hvb) (by decide) dX0_draw_2 dX0_draw_3 (tgt := 15) (by decide) (fun h2 => ?_) (fun h2 => ?_)
  · exfalso
    omega
  · refine lv_lload_n C.1 C.2.1 dX0_draw_6 rfl (lv_at hl 1 rfl) ?_
    refine lv_aload_n C.1 C.2.1 dX0_draw_7 rfl (lv_at hl 0 rfl) ?_
    refine xt_cl hA hW (xt_runV C hW.1 hW.2.1 cwX0_X0_total (cx_total l D cI cL ad S K n wc dn w lw sy sb sh rw rk dr (hV2)) rfl rfl rfl hl.1 (rest := [.long (lN v)]) rfl (Nat.le_of_ble_eq_true rfl) ⟨(Nat.le_of_ble_eq_true rfl), (Nat.le_of_ble_eq_true rfl)⟩ ⟨Nat.zero_le _, Nat.zero_le _⟩ dX0_draw_8) (fun r8 u H locs hp8 hW => ?_)
    replace hW : xt_W D A ss.heap (xX ad cI cL S K n wc dn w lw sy sb sh rw rk dr) H locs := hW
    subst hp8
    refine xt_l_lt C (hvb) (htb) dX0_draw_11 dX0_draw_12 (tgt := 17) (by decide) (fun h11 => ?_) (fun h11 => ?_)
    · refine lv_lload_n C.1 C.2.1 dX0_draw_17 rfl (lv_at hl 1 rfl) ?_
      refine lv_lstore_n C.1 C.2.1 dX0_draw_18 rfl hl (by decide) rfl (fun ls hl => ?_)
      replace hl : lv_has ls 12 [(3, .long (lN v)), (0, .ref (ad 0)), (1, .long (lN v))] := hl
      refine xt_lconst C 1 dX0_draw_19 (by decide +kernel) ?_
      refine lv_lstore C.1 C.2.1 dX0_draw_20 hl (by decide) rfl (fun ls hl => ?_)
      replace hl : lv_has ls 12 [(5, .long (lN 1)), (3, .long (lN v)), (0, .ref (ad 0)), (1, .long (lN v))] := hl
      refine xt_iconst C 0 dX0_draw_22 (by decide +kernel) ?_
      refine lv_istore C.1 C.2.1 dX0_draw_23 hl (by decide) rfl (fun ls hl => ?_)
      replace hl : lv_has ls 12 [(7, .int (nI 0)), (5, .long (lN 1)), (3, .long (lN v)), (0, .ref (ad 0)), (1, .long (lN v))] := hl
      refine xt_iconst C 0 dX0_draw_25 (by decide +kernel) ?_
      refine lv_istore C.1 C.2.1 dX0_draw_26 hl (by decide) rfl (fun ls hl => ?_)
      replace hl : lv_has ls 12 [(8, .int (nI 0)), (7, .int (nI 0)), (5, .long (lN 1)), (3, .long (lN v)), (0, .ref (ad 0)), (1, .long (lN v))] := hl
      have lp28 : ∀ (q : Nat) (p : Nat) (r : Nat) (a : Nat) (rs : Nat) (wt : Nat) (fr : Nat) (dv : Nat → Nat), r = q → (p + r = n) → (a < S ^ p) → (wt = ms_wt (xe w sy) S p a) → (fr = ms_ls S p a) → (ms_sum (fun z1 => ms_wt (xe w sy) S n z1) (a * S ^ r) + rs = v) → (v < ms_sum (fun z1 => ms_wt (xe w sy) S n z1) ((a + 1) * S ^ r)) → (∀ q, q < p → dv q = ms_dg S p a q) → ∀ (ls : Array Slot) (H : Heap) (locs : List Loc), lv_has ls 12 [(8, .int (nI p)), (7, .int (nI fr)), (5, .long (lN wt)), (3, .long (lN rs)), (0, .ref (ad 0))] → xt_W D A ss.heap (xX ad cI cL S K n wc dn w lw sy sb sh rw rk dv) H locs → W pg l ev (xt_R 2) ss mi args below meth cd H locs 0 0 Q (F0 mi 28 ls []) := by
        intro q
        induction q using Nat.strongRecOn with
        | _ q ih28 =>
          intro p r a rs wt fr dv hq28 hpr haS hwt hfr hA1 hB1 hdd ls H locs hl hW
          refine lv_iload C.1 C.2.1 dX0_draw_28 (lv_at hl 0 rfl) ?_
          refine lv_aload_n C.1 C.2.1 dX0_draw_30 rfl (lv_at hl 4 rfl) ?_
          refine xt_get xt_inX0 C hW 0 rfl rfl 4 (by decide) rfl flX0_seenCount rfl dX0_draw_31 ?_
          refine xt_icmp_ge C (by omega) (by omega) dX0_draw_34 (tgt := 159) (by decide) (fun h34 => ?_) (fun h34 => ?_)
          · refine lv_aload_n C.1 C.2.1 dX0_draw_159 rfl (lv_at hl 4 rfl) ?_
            refine lv_aload_n C.1 C.2.1 dX0_draw_160 rfl (lv_at hl 4 rfl) ?_
            refine xt_get xt_inX0 C hW 0 rfl rfl 4 (by decide) rfl flX0_seenCount rfl dX0_draw_161 ?_
            refine xt_put (ty := .int) xt_inX0 tyX0 tyX0_ok nmX0 C hW 0 rfl rfl 11 (by decide) rfl flX0_drawnCount rfl (by decide +kernel) rfl rfl (Nat.le_of_ble_eq_true rfl) dX0_draw_164 (fun H locs hW => ?_)
            replace hW : xt_W D A ss.heap (xX ad cI cL S K n wc n w lw sy sb sh rw rk dv) H locs := hW
            refine xt_iconst C 1 dX0_draw_167 (by decide +kernel) ?_
            exact xt_zret C hE dv hW (by first | exact Or.inl rfl | exact Or.inr rfl) (⟨rfl, a, (by rw [show n = p by omega]; exact haS), (by rw [show r = 0 by omega, Nat.pow_zero, Nat.mul_one] at hA1; omega), (by rw [show r = 0 by omega, Nat.pow_zero, Nat.mul_one] at hB1; exact hB1), fun z2 hz => (by rw [hdd z2 (by omega), show p = n by omega])⟩) dX0_draw_168
          · obtain ⟨r2, rfl⟩ : ∃ r2, r = r2 + 1 := ⟨r - 1, by omega⟩
            refine xt_iconst C 0 dX0_draw_37 (by decide +kernel) ?_
            refine lv_istore C.1 C.2.1 dX0_draw_38 hl (by decide) rfl (fun ls hl => ?_)
            replace hl : lv_has ls 12 [(9, .int (nI 0)), (8, .int (nI p)), (7, .int (nI fr)), (5, .long (lN wt)), (3, .long (lN rs)), (0, .ref (ad 0))] := hl
            have hfb : fr < S := by rw [hfr]; exact xq_lsb hS0
            refine lv_lload C.1 C.2.1 dX0_draw_40 (lv_at hl 3 rfl) ?_
            refine lv_aload_n C.1 C.2.1 dX0_draw_42 rfl (lv_at hl 5 rfl) ?_
            refine lv_iload C.1 C.2.1 dX0_draw_43 (lv_at hl 1 rfl) ?_
            refine lv_iload C.1 C.2.1 dX0_draw_45 (lv_at hl 2 rfl) ?_
            refine lv_iload C.1 C.2.1 dX0_draw_47 (lv_at hl 0 rfl) ?_
            refine xt_cl hA hW (xt_runV C hW.1 hW.2.1 cwX0_X0_entry (cx_entry l D cI cL ad S K n wc dn w lw sy sb sh rw rk dv p fr 0 (by omega) (by omega) (by omega) (hw) (hsy _ (by omega))) rfl rfl rfl hl.1 (rest := [.long (lN wt)]) rfl (Nat.le_of_ble_eq_true rfl) ⟨(Nat.le_of_ble_eq_true rfl), (Nat.le_of_ble_eq_true rfl)⟩ ⟨Nat.zero_le _, Nat.zero_le _⟩ dX0_draw_49) (fun r49 u H locs hp49 hW => ?_)
            replace hW : xt_W D A ss.heap (xX ad cI cL S K n wc dn w lw sy sb sh rw rk dv) H locs := hW
            subst hp49
            refine xt_lmul C dX0_draw_52 ?_
            refine lv_aload_n C.1 C.2.1 dX0_draw_53 rfl (lv_at hl 5 rfl) ?_
            refine xt_get xt_inX0 C hW 0 rfl rfl 7 (by decide) rfl flX0_sumsBehind rfl dX0_draw_54 ?_
            refine lv_iload C.1 C.2.1 dX0_draw_57 (lv_at hl 1 rfl) ?_
            refine W.eq (g2 := F0 mi 59 ls [.int (nI p), .ref (ad 5), .long (lN (wt * (xe w sy p fr 0)))]) rfl ?_
            refine lv_iload C.1 C.2.1 dX0_draw_59 (lv_at hl 0 rfl) ?_
            refine xt_ci hA hW (xt_runS C hW.1 hW.2.1 cwX0_X0_cell (cx_cell l D cI cL (xX ad cI cL S K n wc dn w lw sy sb sh rw rk dv) p 0) rfl hl.1 (rest := [.ref (ad 5), .long (lN (wt * (xe w sy p fr 0)))]) rfl (Nat.le_of_ble_eq_true rfl) ⟨(Nat.le_of_ble_eq_true rfl), (Nat.le_of_ble_eq_true rfl)⟩ ⟨Nat.zero_le _, Nat.zero_le _⟩ dX0_draw_61) (fun r61 u H locs hp61 hW => ?_)
            replace hW : xt_W D A ss.heap (xX ad cI cL S K n wc dn w lw sy sb sh rw rk dv) H locs := hW
            subst hp61
            refine xt_lald C hW 5 rfl (by decide) dX0_draw_64 (by omega) ?_
            refine xt_lmul C dX0_draw_65 ?_
            refine lv_lstore C.1 C.2.1 dX0_draw_66 hl (by decide) rfl (fun ls hl => ?_)
            replace hl : lv_has ls 12 [(10, .long (lN ((wt * (xe w sy p fr 0)) * (sh (p * 3 + 0))))), (9, .int (nI 0)), (8, .int (nI p)), (7, .int (nI fr)), (5, .long (lN wt)), (3, .long (lN rs)), (0, .ref (ad 0))] := hl
            have lp68 : ∀ (q : Nat) (t : Nat) (rs2 : Nat), S - t = q → (t < S) → (ms_sum (fun z1 => ms_wt (xe w sy) S n z1) ((a * S + t) * S ^ r2) + rs2 = v) → ∀ (ls : Array Slot) (H : Heap) (locs : List Loc), lv_has ls 12 [(9, .int (nI t)), (10, .long (lN (wt * xe w sy p fr t * sh (p * 3 + t)))), (3, .long (lN rs2)), (8, .int (nI p)), (7, .int (nI fr)), (5, .long (lN wt)), (0, .ref (ad 0))] → xt_W D A ss.heap (xX ad cI cL S K n wc dn w lw sy sb sh rw rk dv) H locs → W pg l ev (xt_R 2) ss mi args below meth cd H locs 0 0 Q (F0 mi 68 ls []) := by
              intro q
              induction q using Nat.strongRecOn with
              | _ q ih68 =>
                intro t rs2 hq68 ht hA2 ls H locs hl hW
                refine lv_iload C.1 C.2.1 dX0_draw_68 (lv_at hl 0 rfl) ?_
                refine lv_aload_n C.1 C.2.1 dX0_draw_70 rfl (lv_at hl 6 rfl) ?_
                refine xt_get xt_inX0 C hW 0 rfl rfl 0 (by decide) rfl flX0_stateCount rfl dX0_draw_71 ?_
                refine xt_iconst C 1 dX0_draw_74 (by decide +kernel) ?_
                refine xt_isub C dX0_draw_75 (by omega) ?_
                refine xt_icmp_ge C (by omega) (by omega) dX0_draw_76 (tgt := 125) (by decide) (fun h76 => ?_) (fun h76 => ?_)
                · have hB2 : v < ms_sum (fun z1 => ms_wt (xe w sy) S n z1) ((a * S + t + 1) * S ^ r2) := by rw [show a * S + t + 1 = a * S + S by omega, xq_kS]; exact hB1
                  refine lv_lload C.1 C.2.1 dX0_draw_125 (lv_at hl 5 rfl) ?_
                  refine lv_aload_n C.1 C.2.1 dX0_draw_127 rfl (lv_at hl 6 rfl) ?_
                  refine lv_iload C.1 C.2.1 dX0_draw_128 (lv_at hl 3 rfl) ?_
                  refine lv_iload C.1 C.2.1 dX0_draw_130 (lv_at hl 4 rfl) ?_
                  refine lv_iload C.1 C.2.1 dX0_draw_132 (lv_at hl 0 rfl) ?_
                  refine xt_cl hA hW (xt_runV C hW.1 hW.2.1 cwX0_X0_entry (cx_entry l D cI cL ad S K n wc dn w lw sy sb sh rw rk dv p fr t (by omega) (by omega) (by omega) (hw) (hsy _ (by omega))) rfl rfl rfl hl.1 (rest := [.long (lN wt)]) rfl (Nat.le_of_ble_eq_true rfl) ⟨(Nat.le_of_ble_eq_true rfl), (Nat.le_of_ble_eq_true rfl)⟩ ⟨Nat.zero_le _, Nat.zero_le _⟩ dX0_draw_134) (fun r134 u H locs hp134 hW => ?_)
                  replace hW : xt_W D A ss.heap (xX ad cI cL S K n wc dn w lw sy sb sh rw rk dv) H locs := hW
                  subst hp134
                  refine xt_lmul C dX0_draw_137 ?_
                  refine lv_lstore C.1 C.2.1 dX0_draw_138 hl (by decide) rfl (fun ls hl => ?_)
                  replace hl : lv_has ls 12 [(5, .long (lN (wt * (xe w sy p fr t)))), (9, .int (nI t)), (10, .long (lN (wt * xe w sy p fr t * sh (p * 3 + t)))), (3, .long (lN rs2)), (8, .int (nI p)), (7, .int (nI fr)), (0, .ref (ad 0))] := hl
                  refine lv_aload_n C.1 C.2.1 dX0_draw_140 rfl (lv_at hl 6 rfl) ?_
                  refine xt_get xt_inX0 C hW 0 rfl rfl 12 (by decide) rfl flX0_drawnStates rfl dX0_draw_141 ?_
                  refine lv_iload C.1 C.2.1 dX0_draw_144 (lv_at hl 4 rfl) ?_
                  refine lv_iload C.1 C.2.1 dX0_draw_146 (lv_at hl 1 rfl) ?_
                  refine W.eq (g2 := F0 mi 148 ls [.int (nI t), .int (nI p), .ref (ad 8)]) rfl ?_
                  refine xt_iast C hW 8 rfl (by decide) dX0_draw_148 (by omega) (fun H locs hW => ?_)
                  replace hW : xt_W D A ss.heap (xX ad cI cL S K n wc dn w lw sy sb sh rw rk (va_up dv p t)) H locs := hW
                  refine lv_iload C.1 C.2.1 dX0_draw_149 (lv_at hl 1 rfl) ?_
                  refine lv_istore C.1 C.2.1 dX0_draw_151 hl (by decide) rfl (fun ls hl => ?_)
                  replace hl : lv_has ls 12 [(7, .int (nI t)), (5, .long (lN (wt * (xe w sy p fr t)))), (9, .int (nI t)), (10, .long (lN (wt * xe w sy p fr t * sh (p * 3 + t)))), (3, .long (lN rs2)), (8, .int (nI p)), (0, .ref (ad 0))] := hl
                  refine lv_iinc (k := 5) C.1 C.2.1 dX0_draw_153 hl rfl xt_inc (by decide) rfl (fun ls hl => ?_)
                  replace hl : lv_has ls 12 [(8, .int (nI (p + 1))), (7, .int (nI t)), (5, .long (lN (wt * (xe w sy p fr t)))), (9, .int (nI t)), (10, .long (lN (wt * xe w sy p fr t * sh (p * 3 + t)))), (3, .long (lN rs2)), (0, .ref (ad 0))] := hl
                  refine lv_goto C.1 C.2.1 dX0_draw_156 (tgt := 28) (by decide) ?_
                  exact ih28 _ (by omega) (p + 1) r2 (a * S + t) rs2 (wt * xe w sy p fr t) t (va_up dv p t) rfl (by omega) (xq_snl haS ht) (by rw [ms_wt_snoc (xe_0 w sy) ht, hwt, hfr]) ((ms_ls_snoc ht).symm) (hA2) (hB2) (fun q hq => if e : q = p then (by rw [e, xq_up, ms_dg_last ht]) else (by rw [xq_un e, ms_dg_snoc ht (by omega)]; exact hdd q (by omega))) ls _ _ (lv_sub hl [0, 1, 2, 5, 6] rfl) hW
                · refine lv_lload_n C.1 C.2.1 dX0_draw_79 rfl (lv_at hl 2 rfl) ?_
                  refine lv_lload C.1 C.2.1 dX0_draw_80 (lv_at hl 1 rfl) ?_
                  refine xt_l_lt C (by omega) (xq_unl (r := r2) (by omega) ht haS hwt hfr hok.2.1 htb) dX0_draw_82 dX0_draw_83 (tgt := 125) (by decide) (fun h82 => ?_) (fun h82 => ?_)
                  · have hB2 : v < ms_sum (fun z1 => ms_wt (xe w sy) S n z1) ((a * S + t + 1) * S ^ r2) := by rw [xq_un1 (by omega) ht hwt hfr hok.2.1]; omega
                    refine lv_lload C.1 C.2.1 dX0_draw_125 (lv_at hl 5 rfl) ?_
                    refine lv_aload_n C.1 C.2.1 dX0_draw_127 rfl (lv_at hl 6 rfl) ?_
                    refine lv_iload C.1 C.2.1 dX0_draw_128 (lv_at hl 3 rfl) ?_
                    refine lv_iload C.1 C.2.1 dX0_draw_130 (lv_at hl 4 rfl) ?_
                    refine lv_iload C.1 C.2.1 dX0_draw_132 (lv_at hl 0 rfl) ?_
                    refine xt_cl hA hW (xt_runV C hW.1 hW.2.1 cwX0_X0_entry (cx_entry l D cI cL ad S K n wc dn w lw sy sb sh rw rk dv p fr t (by omega) (by omega) (by omega) (hw) (hsy _ (by omega))) rfl rfl rfl hl.1 (rest := [.long (lN wt)]) rfl (Nat.le_of_ble_eq_true rfl) ⟨(Nat.le_of_ble_eq_true rfl), (Nat.le_of_ble_eq_true rfl)⟩ ⟨Nat.zero_le _, Nat.zero_le _⟩ dX0_draw_134) (fun r134 u H locs hp134 hW => ?_)
                    replace hW : xt_W D A ss.heap (xX ad cI cL S K n wc dn w lw sy sb sh rw rk dv) H locs := hW
                    subst hp134
                    refine xt_lmul C dX0_draw_137 ?_
                    refine lv_lstore C.1 C.2.1 dX0_draw_138 hl (by decide) rfl (fun ls hl => ?_)
                    replace hl : lv_has ls 12 [(5, .long (lN (wt * (xe w sy p fr t)))), (9, .int (nI t)), (10, .long (lN (wt * xe w sy p fr t * sh (p * 3 + t)))), (3, .long (lN rs2)), (8, .int (nI p)), (7, .int (nI fr)), (0, .ref (ad 0))] := hl
                    refine lv_aload_n C.1 C.2.1 dX0_draw_140 rfl (lv_at hl 6 rfl) ?_
                    refine xt_get xt_inX0 C hW 0 rfl rfl 12 (by decide) rfl flX0_drawnStates rfl dX0_draw_141 ?_
                    refine lv_iload C.1 C.2.1 dX0_draw_144 (lv_at hl 4 rfl) ?_
                    refine lv_iload C.1 C.2.1 dX0_draw_146 (lv_at hl 1 rfl) ?_
                    refine W.eq (g2 := F0 mi 148 ls [.int (nI t), .int (nI p), .ref (ad 8)]) rfl ?_
                    refine xt_iast C hW 8 rfl (by decide) dX0_draw_148 (by omega) (fun H locs hW => ?_)
                    replace hW : xt_W D A ss.heap (xX ad cI cL S K n wc dn w lw sy sb sh rw rk (va_up dv p t)) H locs := hW
                    refine lv_iload C.1 C.2.1 dX0_draw_149 (lv_at hl 1 rfl) ?_
                    refine lv_istore C.1 C.2.1 dX0_draw_151 hl (by decide) rfl (fun ls hl => ?_)
                    replace hl : lv_has ls 12 [(7, .int (nI t)), (5, .long (lN (wt * (xe w sy p fr t)))), (9, .int (nI t)), (10, .long (lN (wt * xe w sy p fr t * sh (p * 3 + t)))), (3, .long (lN rs2)), (8, .int (nI p)), (0, .ref (ad 0))] := hl
                    refine lv_iinc (k := 5) C.1 C.2.1 dX0_draw_153 hl rfl xt_inc (by decide) rfl (fun ls hl => ?_)
                    replace hl : lv_has ls 12 [(8, .int (nI (p + 1))), (7, .int (nI t)), (5, .long (lN (wt * (xe w sy p fr t)))), (9, .int (nI t)), (10, .long (lN (wt * xe w sy p fr t * sh (p * 3 + t)))), (3, .long (lN rs2)), (0, .ref (ad 0))] := hl
                    refine lv_goto C.1 C.2.1 dX0_draw_156 (tgt := 28) (by decide) ?_
                    exact ih28 _ (by omega) (p + 1) r2 (a * S + t) rs2 (wt * xe w sy p fr t) t (va_up dv p t) rfl (by omega) (xq_snl haS ht) (by rw [ms_wt_snoc (xe_0 w sy) ht, hwt, hfr]) ((ms_ls_snoc ht).symm) (hA2) (hB2) (fun q hq => if e : q = p then (by rw [e, xq_up, ms_dg_last ht]) else (by rw [xq_un e, ms_dg_snoc ht (by omega)]; exact hdd q (by omega))) ls _ _ (lv_sub hl [0, 1, 2, 5, 6] rfl) hW
                  · refine lv_lload_n C.1 C.2.1 dX0_draw_86 rfl (lv_at hl 2 rfl) ?_
                    refine lv_lload C.1 C.2.1 dX0_draw_87 (lv_at hl 1 rfl) ?_
                    refine xt_lsub C dX0_draw_89 (by omega) ?_
                    refine lv_lstore_n C.1 C.2.1 dX0_draw_90 rfl hl (by decide) rfl (fun ls hl => ?_)
                    replace hl : lv_has ls 12 [(3, .long (lN (rs2 - (wt * xe w sy p fr t * sh (p * 3 + t))))), (9, .int (nI t)), (10, .long (lN (wt * xe w sy p fr t * sh (p * 3 + t)))), (8, .int (nI p)), (7, .int (nI fr)), (5, .long (lN wt)), (0, .ref (ad 0))] := hl
                    refine lv_iinc (k := 1) C.1 C.2.1 dX0_draw_91 hl rfl xt_inc (by decide) rfl (fun ls hl => ?_)
                    replace hl : lv_has ls 12 [(9, .int (nI (t + 1))), (3, .long (lN (rs2 - (wt * xe w sy p fr t * sh (p * 3 + t))))), (10, .long (lN (wt * xe w sy p fr t * sh (p * 3 + t)))), (8, .int (nI p)), (7, .int (nI fr)), (5, .long (lN wt)), (0, .ref (ad 0))] := hl
                    refine lv_lload C.1 C.2.1 dX0_draw_94 (lv_at hl 5 rfl) ?_
                    refine lv_aload_n C.1 C.2.1 dX0_draw_96 rfl (lv_at hl 6 rfl) ?_
                    refine lv_iload C.1 C.2.1 dX0_draw_97 (lv_at hl 3 rfl) ?_
                    refine lv_iload C.1 C.2.1 dX0_draw_99 (lv_at hl 4 rfl) ?_
                    refine lv_iload C.1 C.2.1 dX0_draw_101 (lv_at hl 0 rfl) ?_
                    refine xt_cl hA hW (xt_runV C hW.1 hW.2.1 cwX0_X0_entry (cx_entry l D cI cL ad S K n wc dn w lw sy sb sh rw rk dv p fr (t + 1) (by omega) (by omega) (by omega) (hw) (hsy _ (by omega))) rfl rfl rfl hl.1 (rest := [.long (lN wt)]) rfl (Nat.le_of_ble_eq_true rfl) ⟨(Nat.le_of_ble_eq_true rfl), (Nat.le_of_ble_eq_true rfl)⟩ ⟨Nat.zero_le _, Nat.zero_le _⟩ dX0_draw_103) (fun r103 u H locs hp103 hW => ?_)
                    replace hW : xt_W D A ss.heap (xX ad cI cL S K n wc dn w lw sy sb sh rw rk dv) H locs := hW
                    subst hp103
                    refine xt_lmul C dX0_draw_106 ?_
                    refine W.eq (g2 := F0 mi 107 ls [.long (lN (wt * (xe w sy p fr (t + 1))))]) rfl ?_
                    refine lv_aload_n C.1 C.2.1 dX0_draw_107 rfl (lv_at hl 6 rfl) ?_
                    refine xt_get xt_inX0 C hW 0 rfl rfl 7 (by decide) rfl flX0_sumsBehind rfl dX0_draw_108 ?_
                    refine lv_iload C.1 C.2.1 dX0_draw_111 (lv_at hl 3 rfl) ?_
                    refine lv_iload C.1 C.2.1 dX0_draw_113 (lv_at hl 0 rfl) ?_
                    refine xt_ci hA hW (xt_runS C hW.1 hW.2.1 cwX0_X0_cell (cx_cell l D cI cL (xX ad cI cL S K n wc dn w lw sy sb sh rw rk dv) p (t + 1)) rfl hl.1 (rest := [.ref (ad 5), .long (lN (wt * (xe w sy p fr (t + 1))))]) rfl (Nat.le_of_ble_eq_true rfl) ⟨(Nat.le_of_ble_eq_true rfl), (Nat.le_of_ble_eq_true rfl)⟩ ⟨Nat.zero_le _, Nat.zero_le _⟩ dX0_draw_115) (fun r115 u H locs hp115 hW => ?_)
                    replace hW : xt_W D A ss.heap (xX ad cI cL S K n wc dn w lw sy sb sh rw rk dv) H locs := hW
                    subst hp115
                    refine xt_lald C hW 5 rfl (by decide) dX0_draw_118 (by omega) ?_
                    refine xt_lmul C dX0_draw_119 ?_
                    refine lv_lstore C.1 C.2.1 dX0_draw_120 hl (by decide) rfl (fun ls hl => ?_)
                    replace hl : lv_has ls 12 [(10, .long (lN ((wt * (xe w sy p fr (t + 1))) * (sh (p * 3 + (t + 1)))))), (9, .int (nI (t + 1))), (3, .long (lN (rs2 - (wt * xe w sy p fr t * sh (p * 3 + t))))), (8, .int (nI p)), (7, .int (nI fr)), (5, .long (lN wt)), (0, .ref (ad 0))] := hl
                    refine lv_goto C.1 C.2.1 dX0_draw_122 (tgt := 68) (by decide) ?_
                    exact ih68 _ (by omega) (t + 1) (rs2 - wt * xe w sy p fr t * sh (p * 3 + t)) rfl (by omega) (by rw [← Nat.add_assoc, xq_un1 (by omega) ht hwt hfr hok.2.1]; omega) ls _ _ (lv_sub hl [1, 0, 2, 3, 4, 5, 6] rfl) hW
            exact lp68 _ 0 rs rfl (hS0) (by rw [← xq_k0]; exact hA1) ls _ _ (lv_sub hl [1, 0, 5, 2, 3, 4, 6] rfl) hW
      exact lp28 _ 0 n 0 v 1 0 dr rfl (Nat.zero_add n) (Nat.one_pos) (rfl) (rfl) (by rw [Nat.zero_mul]; exact Nat.zero_add v) (by rw [Nat.zero_add, Nat.one_mul]; exact hvt) (fun q h => absurd h (Nat.not_lt_zero q)) ls _ _ (lv_sub hl [0, 1, 2, 3, 4] rfl) hW
    · exfalso
      exact absurd hvt (by omega)
set_option maxHeartbeats 4000000 in
set_option maxRecDepth 100000 in
theorem cx_draw_n (l : Launch) (D : va_G) (cI cL : ClassId) (ad : Nat → Nat) (S K n wc dn : Nat) (w lw sy sb sh rw rk dr : Nat → Nat) (u : Int64) (hV : xq_V S K n wc w lw sy sb sh rw rk) (hno : ¬ ∃ z3, u = lN z3 ∧ z3 < ms_sum (fun z1 => ms_wt (xe w sy) S n z1) (S ^ n)) : xt_M l yX0_draw cX0_draw 12 (some .boolean) 2 D cI cL [.ref (ad 0), .long u] (xX ad cI cL S K n wc dn w lw sy sb sh rw rk dr) (xt_Qi D cI cL (xX ad cI cL S K n wc dn w lw sy sb sh rw rk dr) (fun (r : Int32) (u : Unit) => r = nI 0) (fun u => xX ad cI cL S K n wc dn w lw sy sb sh rw rk dr)) := by
  have hV2 := hV
  obtain ⟨hS0, hS3, hK0, hK4, hn6, hw, hlw, hsK, hok⟩ := hV
  have hsy : ∀ p, p < n → sy p < 4 := fun p h => Nat.lt_of_lt_of_le (hsK p h) hK4
  have htb := xq_totb (n := n) hS0 hS3 hn6 hw hsy
  refine xt_start (own := RX0) rfl (by decide) (Nat.le_of_ble_eq_true rfl) (fun pg ev ss mi args below meth cd A Q ls C hE hA hl hW => ?_)
  replace hl : lv_has ls 12 [(0, .ref (ad 0)), (1, .long u)] := hl
  by_cases hu : u < 0
  · refine lv_lload_n C.1 C.2.1 dX0_draw_0 rfl (lv_at hl 1 rfl) ?_
    refine xt_lconst C 0 dX0_draw_1 (by decide +kernel) ?_
    refine W.lcmp C.1 C.2.1 dX0_draw_2 ?_
    refine lv_if_lt C.1 C.2.1 dX0_draw_3 (tgt := 15) (by decide) (fun h2 => ?_) (fun h2 => ?_)
    · refine xt_iconst C 0 dX0_draw_15 (by decide +kernel) ?_
      exact xt_zret C hE () hW (by first | exact Or.inl rfl | exact Or.inr rfl) (rfl) dX0_draw_16
    · exfalso
      exact h2 ((lg_cmp_lt _ _).mpr hu)
  obtain ⟨v, hvb, rfl⟩ := pk_lOf hu
  replace hl : lv_has ls 12 [(0, .ref (ad 0)), (1, .long (lN v))] := hl
  refine lv_lload_n C.1 C.2.1 dX0_draw_0 rfl (lv_at hl 1 rfl) ?_
  refine xt_lconst C 0 dX0_draw_1 (by decide +kernel) ?_
  refine xt_l_lt C (hvb) (by decide) dX0_draw_2 dX0_draw_3 (tgt := 15) (by decide) (fun h2 => ?_) (fun h2 => ?_)
  · refine xt_iconst C 0 dX0_draw_15 (by decide +kernel) ?_
    exact xt_zret C hE () hW (by first | exact Or.inl rfl | exact Or.inr rfl) (rfl) dX0_draw_16
  · refine lv_lload_n C.1 C.2.1 dX0_draw_6 rfl (lv_at hl 1 rfl) ?_
    refine lv_aload_n C.1 C.2.1 dX0_draw_7 rfl (lv_at hl 0 rfl) ?_
    refine xt_cl hA hW (xt_runV C hW.1 hW.2.1 cwX0_X0_total (cx_total l D cI cL ad S K n wc dn w lw sy sb sh rw rk dr (hV2)) rfl rfl rfl hl.1 (rest := [.long (lN v)]) rfl (Nat.le_of_ble_eq_true rfl) ⟨(Nat.le_of_ble_eq_true rfl), (Nat.le_of_ble_eq_true rfl)⟩ ⟨Nat.zero_le _, Nat.zero_le _⟩ dX0_draw_8) (fun r8 u H locs hp8 hW => ?_)
    replace hW : xt_W D A ss.heap (xX ad cI cL S K n wc dn w lw sy sb sh rw rk dr) H locs := hW
    subst hp8
    refine xt_l_lt C (hvb) (htb) dX0_draw_11 dX0_draw_12 (tgt := 17) (by decide) (fun h11 => ?_) (fun h11 => ?_)
    · exfalso
      exact hno ⟨v, rfl, h11⟩
    · refine xt_iconst C 0 dX0_draw_15 (by decide +kernel) ?_
      exact xt_zret C hE () hW (by first | exact Or.inl rfl | exact Or.inr rfl) (rfl) dX0_draw_16
