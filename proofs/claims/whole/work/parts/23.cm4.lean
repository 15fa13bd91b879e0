def xq_p2 (tp bt : Nat) (k : Int32) : Nat := if k = nI 0 then tp else if k = nI 1 then bt else 0
theorem mq_p0 (a b : Nat) : xq_p2 a b (nI 0) = a := if_pos rfl
theorem mq_p1 (a b : Nat) : xq_p2 a b (nI 1) = b := by unfold xq_p2; rw [if_neg (by decide), if_pos rfl]
theorem mq_px {a b : Nat} {k : Int32} (h0 : ¬ k = nI 0) (h1 : ¬ k = nI 1) : xq_p2 a b k = 0 := by unfold xq_p2; rw [if_neg h0, if_neg h1]
theorem mq_top {x y : Nat} (hy : 0 < y) : x / Nat.gcd x y = xq_top x y := by
  unfold xq_top
  by_cases h : x = 0
  · rw [if_pos h, h, Nat.zero_div]
  · rw [if_neg h]
theorem mq_bot {x y : Nat} (hy : 0 < y) : y / Nat.gcd x y = xq_bot x y := by
  unfold xq_bot
  by_cases h : x = 0
  · rw [if_pos h, h, Nat.gcd_zero_left, Nat.div_self hy]
  · rw [if_neg h]
theorem mq_pt {x y : Nat} {k : Int32} (hy : 0 < y) : xq_p2 (x / Nat.gcd x y) (y / Nat.gcd x y) k = xq_pt x y k := by
  rw [mq_top hy, mq_bot hy]
  rfl
theorem mq_ptz {x y : Nat} {k : Int32} (hx : x = 0) : xq_p2 (0 / Nat.gcd 0 1) (1 / Nat.gcd 0 1) k = xq_pt x y k := by
  rw [hx]
  have h : xq_pt 0 y k = xq_pt 0 1 k := by
    unfold xq_pt xq_top xq_bot
    rfl
  rw [h]
  exact mq_pt Nat.one_pos
theorem mq_t1 {S n : Nat} {ro : Nat → Nat} {ka kb kc k i : Nat} (h : ms_in S n ro ka kb kc k i) : ms_sum (ms_id S n ro ka kb kc k) i + 1 = ms_sum (ms_id S n ro ka kb kc k) (i + 1) := by
  rw [ms_sum_succ, ms_id_t h]
theorem mq_t0 {S n : Nat} {ro : Nat → Nat} {ka kb kc k i : Nat} (h : ¬ ms_in S n ro ka kb kc k i) : ms_sum (ms_id S n ro ka kb kc k) i = ms_sum (ms_id S n ro ka kb kc k) (i + 1) := by
  rw [ms_sum_succ, ms_id_f h, Nat.add_zero]
/-- the sum over all ways, each as often as it weighs -/
noncomputable def mq_un (S n : Nat) (w ro : Nat → Nat) (ka kb kc : Nat) : Nat := ms_sum (fun z1 => ms_wt (me w ro) S n z1 * ms_tm S n ro ka kb kc z1) (S ^ n)
theorem mq_unb {S n : Nat} {w ro : Nat → Nat} {ka kb kc : Nat} (hS0 : 0 < S) (hS3 : S ≤ 3) (hn6 : n ≤ 6) (hw : ∀ i, i < 24 → w i ≤ 9) (hsy : ∀ p, p < n → ro p < 4) : mq_un S n w ro ka kb kc ≤ 1235346792567894 := by
  unfold mq_un
  have h1 : ms_sum (fun k => ms_wt (me w ro) S n k * ms_tm S n ro ka kb kc k) (S ^ n) ≤ ms_sum (fun k => ms_wt (me w ro) S n k * 6) (S ^ n) :=
    ms_sum_mono (fun k _ => Nat.mul_le_mul_left _ (Nat.le_trans (ms_tm_le S n ro ka kb kc k) hn6))
  rw [ms_sum_mulr] at h1
  have h2 : ms_sum (ms_wt (me w ro) S n) (S ^ n) ≤ 205891132094649 := ms_tot_le hS0 hS3 hn6 (mq_e81 hw hS3 hsy)
  omega
theorem mq_un0 {S n : Nat} {w ro : Nat → Nat} {ka kb kc : Nat} (h : ms_sum (fun z1 => ms_wt (me w ro) S n z1) (S ^ n) = 0) : mq_un S n w ro ka kb kc = 0 :=
  ms_sum_eq0 (fun k hk => by
    have h1 : ms_wt (me w ro) S n k = 0 := ms_of_sum0 h hk
    rw [h1, Nat.zero_mul])
theorem mq_unz {S n : Nat} {w ro : Nat → Nat} {ka kb kc : Nat} (h : n = 0) : mq_un S n w ro ka kb kc = 0 := by
  subst h
  exact ms_sum_eq0 (fun k _ => Nat.mul_zero _)
noncomputable def mq_ru (S K n : Nat) (w ro : Nat → Nat) (ka kb : Nat) : Nat := ms_sum (fun z1 => mq_un S n w ro ka kb z1) (xq_cl S K ka)
def mq_rt (S K : Nat) (w : Nat → Nat) (ka kb : Nat) : Nat := ms_sum (fun z1 => w (mq_sl ka kb z1)) (xq_cl S K ka)
noncomputable def mq_po (S K n : Nat) (w ro : Nat → Nat) (ka kb kc : Nat) : Nat := if mq_ru S K n w ro ka kb = 0 then w (mq_sl ka kb kc) else mq_un S n w ro ka kb kc
noncomputable def mq_wh (S K n : Nat) (w ro : Nat → Nat) (ka kb : Nat) : Nat := if mq_ru S K n w ro ka kb = 0 then mq_rt S K w ka kb else mq_ru S K n w ro ka kb
theorem mq_rub {S K n : Nat} {w ro : Nat → Nat} {ka kb : Nat} (hS0 : 0 < S) (hS3 : S ≤ 3) (hK4 : K ≤ 4) (hn6 : n ≤ 6) (hw : ∀ i, i < 24 → w i ≤ 9) (hsy : ∀ p, p < n → ro p < 4) (m : Nat) (hm : m ≤ xq_cl S K ka) : ms_sum (fun z1 => mq_un S n w ro ka kb z1) m ≤ 4941387170271576 := by
  have h1 : ms_sum (fun z1 => mq_un S n w ro ka kb z1) m ≤ m * 1235346792567894 := ms_sum_le (fun c _ => mq_unb hS0 hS3 hn6 hw hsy)
  have h2 := xq_clb (a := ka) hS3 hK4
  have h3 : m * 1235346792567894 ≤ 4 * 1235346792567894 := Nat.mul_le_mul_right _ (by omega)
  omega
theorem mq_rtb {S K : Nat} {w : Nat → Nat} {ka kb : Nat} (hS3 : S ≤ 3) (hK4 : K ≤ 4) (hw : ∀ i, i < 24 → w i ≤ 9) (ha : ka < 3) (hb : kb < xq_rw S ka) (m : Nat) (hm : m ≤ xq_cl S K ka) : ms_sum (fun z1 => w (mq_sl ka kb z1)) m ≤ 36 := by
  have h2 := xq_clb (a := ka) hS3 hK4
  have h1 : ms_sum (fun z1 => w (mq_sl ka kb z1)) m ≤ m * 9 := ms_sum_le (fun c hc => hw _ (mq_slb hS3 hK4 (xq_krc ha hb (by omega))))
  omega
/-- what a fraction of the learned becomes -/
theorem mq_f1a {S K n : Nat} {w ro : Nat → Nat} {ka kb kc : Nat} (h : 0 < mq_ru S K n w ro ka kb) : mq_un S n w ro ka kb kc / Nat.gcd (mq_un S n w ro ka kb kc) (mq_ru S K n w ro ka kb) = xq_top (mq_po S K n w ro ka kb kc) (mq_wh S K n w ro ka kb) ∧ mq_ru S K n w ro ka kb / Nat.gcd (mq_un S n w ro ka kb kc) (mq_ru S K n w ro ka kb) = xq_bot (mq_po S K n w ro ka kb kc) (mq_wh S K n w ro ka kb) := by
  unfold mq_po mq_wh
  rw [if_neg (by omega), if_neg (by omega)]
  exact ⟨mq_top h, mq_bot h⟩
theorem mq_f1b {S K n : Nat} {w ro : Nat → Nat} {ka kb kc : Nat} (h : mq_ru S K n w ro ka kb = 0) (h2 : 0 < mq_rt S K w ka kb) : w (mq_sl ka kb kc) / Nat.gcd (w (mq_sl ka kb kc)) (mq_rt S K w ka kb) = xq_top (mq_po S K n w ro ka kb kc) (mq_wh S K n w ro ka kb) ∧ mq_rt S K w ka kb / Nat.gcd (w (mq_sl ka kb kc)) (mq_rt S K w ka kb) = xq_bot (mq_po S K n w ro ka kb kc) (mq_wh S K n w ro ka kb) := by
  unfold mq_po mq_wh
  rw [if_pos h, if_pos h]
  exact ⟨mq_top h2, mq_bot h2⟩
theorem mq_f1c {S K n : Nat} {w ro : Nat → Nat} {ka kb kc : Nat} (h : mq_ru S K n w ro ka kb = 0) (h2 : mq_rt S K w ka kb = 0) (hc : kc < xq_cl S K ka) : 0 / Nat.gcd 0 1 = xq_top (mq_po S K n w ro ka kb kc) (mq_wh S K n w ro ka kb) ∧ 1 / Nat.gcd 0 1 = xq_bot (mq_po S K n w ro ka kb kc) (mq_wh S K n w ro ka kb) := by
  have hz : w (mq_sl ka kb kc) = 0 := ms_of_sum0 (f := fun z1 => w (mq_sl ka kb z1)) h2 hc
  unfold mq_po mq_wh
  rw [if_pos h, if_pos h, hz, xq_top0 _ rfl, xq_bot0 _ rfl]
  decide
set_option maxHeartbeats 4000000 in
set_option maxRecDepth 100000 in
theorem cm_fraction (l : Launch) (D : va_G) (cI cL : ClassId) (am : Nat → Nat) (S K n iz dz tp bt : Nat) (w ro wa ch al fr : Nat → Nat) (x : Nat) (y : Nat) (hxb : x < 2 ^ 63) (hyb : y < 2 ^ 63) (hy0 : 0 < y) : xt_M l yX1_fraction cX1_fraction 11 none 0 D cI cL [.ref (am 0), .long (lN x), .long (lN y)] (xM am cI cL S K n iz dz tp bt w ro wa ch al fr) (xt_Qv D cI cL (xM am cI cL S K n iz dz tp bt w ro wa ch al fr) (fun (u : Unit) => True) (fun u => xM am cI cL S K n iz dz (x / Nat.gcd x y) (y / Nat.gcd x y) w ro wa ch al fr)) := by
  refine xt_start (own := RX1) rfl (by decide) (Nat.le_of_ble_eq_true rfl) (fun pg ev ss mi args below meth cd A Q ls C hE hA hl hW => ?_)
  replace hl : lv_has ls 11 [(0, .ref (am 0)), (1, .long (lN x)), (3, .long (lN y))] := hl
  refine lv_lload_n C.1 C.2.1 dX1_fraction_0 rfl (lv_at hl 1 rfl) ?_
  refine lv_lstore C.1 C.2.1 dX1_fraction_1 hl (by decide) rfl (fun ls hl => ?_)
  replace hl : lv_has ls 11 [(5, .long (lN x)), (0, .ref (am 0)), (1, .long (lN x)), (3, .long (lN y))] := hl
  refine lv_lload_n C.1 C.2.1 dX1_fraction_3 rfl (lv_at hl 3 rfl) ?_
  refine lv_lstore C.1 C.2.1 dX1_fraction_4 hl (by decide) rfl (fun ls hl => ?_)
  replace hl : lv_has ls 11 [(7, .long (lN y)), (5, .long (lN x)), (0, .ref (am 0)), (1, .long (lN x)), (3, .long (lN y))] := hl
  have lp6 : ∀ (mq0 : Nat) (a : Nat) (b : Nat), b = mq0 → (a < 2 ^ 63) → (b < 2 ^ 63) → (Nat.gcd a b = Nat.gcd x y) → ∀ (ls : Array Slot) (H : Heap) (locs : List Loc), lv_has ls 11 [(7, .long (lN b)), (5, .long (lN a)), (0, .ref (am 0)), (1, .long (lN x)), (3, .long (lN y))] → xt_W D A ss.heap (xM am cI cL S K n iz dz tp bt w ro wa ch al fr) H locs → W pg l ev (xt_R 0) ss mi args below meth cd H locs 0 0 Q (F0 mi 6 ls []) := by
    intro mq0
    induction mq0 using Nat.strongRecOn with
    | _ mq0 ih6 =>
      intro a b hq6 ha hb hg ls H locs hl hW
      refine lv_lload C.1 C.2.1 dX1_fraction_6 (lv_at hl 0 rfl) ?_
      refine xt_lconst C 0 dX1_fraction_8 (by decide +kernel) ?_
      refine xt_l_eq C (hb) (by decide) dX1_fraction_9 dX1_fraction_10 (tgt := 31) (by decide) (fun h9 => ?_) (fun h9 => ?_)
      · obtain rfl : a = Nat.gcd x y := by rw [← hg, show b = 0 from h9, Nat.gcd_zero_right]
        replace hl : lv_has ls 11 [(7, .long (lN b)), (5, .long (lN (Nat.gcd x y))), (0, .ref (am 0)), (1, .long (lN x)), (3, .long (lN y))] := hl
        have hgp : 0 < Nat.gcd x y := Nat.gcd_pos_of_pos_right x hy0
        refine lv_aload_n C.1 C.2.1 dX1_fraction_31 rfl (lv_at hl 2 rfl) ?_
        refine lv_lload_n C.1 C.2.1 dX1_fraction_32 rfl (lv_at hl 3 rfl) ?_
        refine lv_lload C.1 C.2.1 dX1_fraction_33 (lv_at hl 1 rfl) ?_
        refine xt_ldiv C dX1_fraction_35 (hgp) (hxb) (ha) ?_
        refine xt_put (ty := .long) xt_inX1 tyX1 tyX1_ok nmX1 C hW 0 rfl rfl 11 (by decide) rfl flX1_top rfl (by decide +kernel) rfl rfl (Nat.le_of_ble_eq_true rfl) dX1_fraction_36 (fun H locs hW => ?_)
        replace hW : xt_W D A ss.heap (xM am cI cL S K n iz dz (x / (Nat.gcd x y)) bt w ro wa ch al fr) H locs := hW
        refine lv_aload_n C.1 C.2.1 dX1_fraction_39 rfl (lv_at hl 2 rfl) ?_
        refine lv_lload_n C.1 C.2.1 dX1_fraction_40 rfl (lv_at hl 4 rfl) ?_
        refine lv_lload C.1 C.2.1 dX1_fraction_41 (lv_at hl 1 rfl) ?_
        refine xt_ldiv C dX1_fraction_43 (hgp) (hyb) (ha) ?_
        refine xt_put (ty := .long) xt_inX1 tyX1 tyX1_ok nmX1 C hW 0 rfl rfl 12 (by decide) rfl flX1_bottom rfl (by decide +kernel) rfl rfl (Nat.le_of_ble_eq_true rfl) dX1_fraction_44 (fun H locs hW => ?_)
        replace hW : xt_W D A ss.heap (xM am cI cL S K n iz dz (x / (Nat.gcd x y)) (y / (Nat.gcd x y)) w ro wa ch al fr) H locs := hW
        exact xt_vret C hE () hW (trivial) dX1_fraction_47
      · refine lv_lload C.1 C.2.1 dX1_fraction_13 (lv_at hl 1 rfl) ?_
        refine lv_lload C.1 C.2.1 dX1_fraction_15 (lv_at hl 0 rfl) ?_
        refine xt_lrem C dX1_fraction_17 (by omega) (ha) (hb) ?_
        refine lv_lstore C.1 C.2.1 dX1_fraction_18 hl (by decide) rfl (fun ls hl => ?_)
        replace hl : lv_has ls 11 [(9, .long (lN (a % b))), (7, .long (lN b)), (5, .long (lN a)), (0, .ref (am 0)), (1, .long (lN x)), (3, .long (lN y))] := hl
        refine lv_lload C.1 C.2.1 dX1_fraction_20 (lv_at hl 1 rfl) ?_
        refine lv_lstore C.1 C.2.1 dX1_fraction_22 hl (by decide) rfl (fun ls hl => ?_)
        replace hl : lv_has ls 11 [(5, .long (lN b)), (9, .long (lN (a % b))), (7, .long (lN b)), (0, .ref (am 0)), (1, .long (lN x)), (3, .long (lN y))] := hl
        refine lv_lload C.1 C.2.1 dX1_fraction_24 (lv_at hl 1 rfl) ?_
        refine lv_lstore C.1 C.2.1 dX1_fraction_26 hl (by decide) rfl (fun ls hl => ?_)
        replace hl : lv_has ls 11 [(7, .long (lN (a % b))), (5, .long (lN b)), (9, .long (lN (a % b))), (0, .ref (am 0)), (1, .long (lN x)), (3, .long (lN y))] := hl
        refine lv_goto C.1 C.2.1 dX1_fraction_28 (tgt := 6) (by decide) ?_
        exact ih6 _ (by have := Nat.mod_lt a (show b > 0 by omega); omega) b (a % b) rfl (hb) (Nat.lt_trans (Nat.mod_lt _ (by omega)) hb) (by rw [ms_gcd_step (by omega)]; exact hg) ls _ _ (lv_sub hl [0, 1, 3, 4, 5] rfl) hW
  exact lp6 _ x y rfl (hxb) (hyb) (rfl) ls _ _ (lv_sub hl [0, 1, 2, 3, 4] rfl) hW
set_option maxHeartbeats 4000000 in
set_option maxRecDepth 100000 in
theorem cm_part (l : Launch) (D : va_G) (cI cL : ClassId) (am : Nat → Nat) (S K n iz dz tp bt : Nat) (w ro wa ch al fr : Nat → Nat) (k : Int32) : xt_M l yX1_part cX1_part 2 (some .long) 0 D cI cL [.ref (am 0), .int k] (xM am cI cL S K n iz dz tp bt w ro wa ch al fr) (xt_Ql D cI cL (xM am cI cL S K n iz dz tp bt w ro wa ch al fr) (fun (r : Int64) (u : Unit) => r = lN (xq_p2 tp bt k)) (fun u => xM am cI cL S K n iz dz tp bt w ro wa ch al fr)) := by
  refine xt_start (own := RX1) rfl (by decide) (Nat.le_of_ble_eq_true rfl) (fun pg ev ss mi args below meth cd A Q ls C hE hA hl hW => ?_)
  replace hl : lv_has ls 2 [(0, .ref (am 0)), (1, .int k)] := hl
  by_cases e0 : k = nI 0
  · subst e0
    replace hl : lv_has ls 2 [(0, .ref (am 0)), (1, .int (nI 0))] := hl
    refine lv_iload_n C.1 C.2.1 dX1_part_0 rfl (lv_at hl 1 rfl) ?_
    refine xt_if_ne C (by omega) dX1_part_1 (tgt := 11) (by decide) (fun h1 => ?_) (fun h1 => ?_)
    · exfalso
      omega
    · refine lv_aload_n C.1 C.2.1 dX1_part_4 rfl (lv_at hl 0 rfl) ?_
      refine xt_get xt_inX1 C hW 0 rfl rfl 11 (by decide) rfl flX1_top rfl dX1_part_5 ?_
      refine lv_goto C.1 C.2.1 dX1_part_8 (tgt := 24) (by decide) ?_
      exact xt_lret C hE () hW (by show lN _ = lN _; rw [mq_p0]) dX1_part_24
  by_cases e1 : k = nI 1
  · subst e1
    replace hl : lv_has ls 2 [(0, .ref (am 0)), (1, .int (nI 1))] := hl
    refine lv_iload_n C.1 C.2.1 dX1_part_0 rfl (lv_at hl 1 rfl) ?_
    refine xt_if_ne C (by omega) dX1_part_1 (tgt := 11) (by decide) (fun h1 => ?_) (fun h1 => ?_)
    · refine lv_iload_n C.1 C.2.1 dX1_part_11 rfl (lv_at hl 1 rfl) ?_
      refine xt_iconst C 1 dX1_part_12 (by decide +kernel) ?_
      refine xt_icmp_ne C (by omega) (by omega) dX1_part_13 (tgt := 23) (by decide) (fun h13 => ?_) (fun h13 => ?_)
      · exfalso
        omega
      · refine lv_aload_n C.1 C.2.1 dX1_part_16 rfl (lv_at hl 0 rfl) ?_
        refine xt_get xt_inX1 C hW 0 rfl rfl 12 (by decide) rfl flX1_bottom rfl dX1_part_17 ?_
        refine lv_goto C.1 C.2.1 dX1_part_20 (tgt := 24) (by decide) ?_
        exact xt_lret C hE () hW (by show lN _ = lN _; rw [mq_p1]) dX1_part_24
    · exfalso
      omega
  refine lv_iload_n C.1 C.2.1 dX1_part_0 rfl (lv_at hl 1 rfl) ?_
  refine lv_if_ne C.1 C.2.1 dX1_part_1 (tgt := 11) (by decide) (fun h1 => ?_) (fun h1 => ?_)
  · refine lv_iload_n C.1 C.2.1 dX1_part_11 rfl (lv_at hl 1 rfl) ?_
    refine xt_iconst C 1 dX1_part_12 (by decide +kernel) ?_
    refine lv_icmp_ne C.1 C.2.1 dX1_part_13 (tgt := 23) (by decide) (fun h13 => ?_) (fun h13 => ?_)
    · refine xt_lconst C 0 dX1_part_23 (by decide +kernel) ?_
      exact xt_lret C hE () hW (by show lN 0 = lN _; rw [mq_px e0 e1]) dX1_part_24
    · exfalso
      exact e1 h13
  · exfalso
    exact e0 (by rw [nI_0]; exact h1)
set_option maxHeartbeats 4000000 in
set_option maxRecDepth 100000 in
theorem cm_times (l : Launch) (D : va_G) (cI cL : ClassId) (am : Nat → Nat) (S K n iz dz tp bt : Nat) (w ro wa ch al fr : Nat → Nat) (ka : Nat) (kb : Nat) (kc : Nat) (k : Nat) (ha3 : ka < 3) (hb30 : kb < 2 ^ 30) (hc30 : kc < 2 ^ 30) (hn6 : n ≤ 6) (hS0 : 0 < S) (hS3 : S ≤ 3) (hsy : ∀ p, p < n → ro p < 4) (hwa : ∀ q, q < n → wa q = ms_dg S n k q) : xt_M l yX1_times cX1_times 7 (some .int) 0 D cI cL [.ref (am 0), .int (nI ka), .int (nI kb), .int (nI kc)] (xM am cI cL S K n iz dz tp bt w ro wa ch al fr) (xt_Qi D cI cL (xM am cI cL S K n iz dz tp bt w ro wa ch al fr) (fun (r : Int32) (u : Unit) => r = nI (ms_tm S n ro ka kb kc k)) (fun u => xM am cI cL S K n iz dz tp bt w ro wa ch al fr)) := by
  have hdb : ∀ q, ms_dg S n k q < 3 := fun q => Nat.lt_of_lt_of_le (ms_dg_lt hS0) hS3
  refine xt_start (own := RX1) rfl (by decide) (Nat.le_of_ble_eq_true rfl) (fun pg ev ss mi args below meth cd A Q ls C hE hA hl hW => ?_)
  replace hl : lv_has ls 7 [(0, .ref (am 0)), (1, .int (nI ka)), (2, .int (nI kb)), (3, .int (nI kc))] := hl
  refine xt_iconst C 0 dX1_times_0 (by decide +kernel) ?_
  refine lv_istore C.1 C.2.1 dX1_times_1 hl (by decide) rfl (fun ls hl => ?_)
  replace hl : lv_has ls 7 [(4, .int (nI 0)), (0, .ref (am 0)), (1, .int (nI ka)), (2, .int (nI kb)), (3, .int (nI kc))] := hl
  refine xt_iconst C 0 dX1_times_3 (by decide +kernel) ?_
  refine lv_istore C.1 C.2.1 dX1_times_4 hl (by decide) rfl (fun ls hl => ?_)
  replace hl : lv_has ls 7 [(5, .int (nI 0)), (4, .int (nI 0)), (0, .ref (am 0)), (1, .int (nI ka)), (2, .int (nI kb)), (3, .int (nI kc))] := hl
  have lp6 : ∀ (mq0 : Nat) (i : Nat), n - i = mq0 → (i ≤ n) → ∀ (ls : Array Slot) (H : Heap) (locs : List Loc), lv_has ls 7 [(5, .int (nI i)), (4, .int (nI (ms_sum (ms_id S n ro ka kb kc k) i))), (0, .ref (am 0)), (1, .int (nI ka)), (2, .int (nI kb)), (3, .int (nI kc))] → xt_W D A ss.heap (xM am cI cL S K n iz dz tp bt w ro wa ch al fr) H locs → W pg l ev (xt_R 0) ss mi args below meth cd H locs 0 0 Q (F0 mi 6 ls []) := by
    intro mq0
    induction mq0 using Nat.strongRecOn with
    | _ mq0 ih6 =>
      intro i hq6 hi ls H locs hl hW
      refine lv_iload C.1 C.2.1 dX1_times_6 (lv_at hl 0 rfl) ?_
      refine lv_aload_n C.1 C.2.1 dX1_times_8 rfl (lv_at hl 2 rfl) ?_
      refine xt_get xt_inX1 C hW 0 rfl rfl 3 (by decide) rfl flX1_n rfl dX1_times_9 ?_
      refine xt_icmp_ge C (by omega) (by omega) dX1_times_12 (tgt := 143) (by decide) (fun h12 => ?_) (fun h12 => ?_)
      · refine lv_iload C.1 C.2.1 dX1_times_143 (lv_at hl 1 rfl) ?_
        exact xt_iret C hE () hW (by show nI (ms_sum _ i) = nI _; rw [show i = n by omega]; rfl) dX1_times_145
      · have hwi := hwa i (by omega)
        have hd1 := hdb i
        have hd2 := hdb (i + 1)
        have hri := hsy i (by omega)
        refine lv_iload_n C.1 C.2.1 dX1_times_15 rfl (lv_at hl 3 rfl) ?_
        refine xt_if_ne C (by omega) dX1_times_16 (tgt := 44) (by decide) (fun h16 => ?_) (fun h16 => ?_)
        · refine lv_iload_n C.1 C.2.1 dX1_times_44 rfl (lv_at hl 3 rfl) ?_
          refine xt_iconst C 1 dX1_times_45 (by decide +kernel) ?_
          refine xt_icmp_ne C (by omega) (by omega) dX1_times_46 (tgt := 92) (by decide) (fun h46 => ?_) (fun h46 => ?_)
          · refine lv_aload_n C.1 C.2.1 dX1_times_92 rfl (lv_at hl 2 rfl) ?_
            refine xt_get xt_inX1 C hW 0 rfl rfl 5 (by decide) rfl flX1_way rfl dX1_times_93 ?_
            refine lv_iload C.1 C.2.1 dX1_times_96 (lv_at hl 0 rfl) ?_
            refine xt_iald C hW 3 rfl (by decide) dX1_times_98 (by omega) ?_
            refine lv_iload_n C.1 C.2.1 dX1_times_99 rfl (lv_at hl 4 rfl) ?_
            refine xt_icmp_ne C (by omega) (by omega) dX1_times_100 (tgt := 118) (by decide) (fun h100 => ?_) (fun h100 => ?_)
            · refine xt_iconst C 0 dX1_times_118 (by decide +kernel) ?_
              refine lv_istore C.1 C.2.1 dX1_times_119 hl (by decide) rfl (fun ls hl => ?_)
              replace hl : lv_has ls 7 [(6, .int (nI 0)), (5, .int (nI i)), (4, .int (nI (ms_sum (ms_id S n ro ka kb kc k) i))), (0, .ref (am 0)), (1, .int (nI ka)), (2, .int (nI kb)), (3, .int (nI kc))] := hl
              refine lv_iload C.1 C.2.1 dX1_times_121 (lv_at hl 0 rfl) ?_
              refine xt_if_eq C (by omega) dX1_times_123 (tgt := 133) (by decide) (fun h123 => ?_) (fun h123 => ?_)
              · refine lv_iload C.1 C.2.1 dX1_times_133 (lv_at hl 2 rfl) ?_
                refine lv_istore C.1 C.2.1 dX1_times_135 hl (by decide) rfl (fun ls hl => ?_)
                replace hl : lv_has ls 7 [(4, .int (nI (ms_sum (ms_id S n ro ka kb kc k) i))), (6, .int (nI 0)), (5, .int (nI i)), (0, .ref (am 0)), (1, .int (nI ka)), (2, .int (nI kb)), (3, .int (nI kc))] := hl
                refine lv_iinc (k := 2) C.1 C.2.1 dX1_times_137 hl rfl xt_inc (by decide) rfl (fun ls hl => ?_)
                replace hl : lv_has ls 7 [(5, .int (nI (i + 1))), (4, .int (nI (ms_sum (ms_id S n ro ka kb kc k) i))), (6, .int (nI 0)), (0, .ref (am 0)), (1, .int (nI ka)), (2, .int (nI kb)), (3, .int (nI kc))] := hl
                refine lv_goto C.1 C.2.1 dX1_times_140 (tgt := 6) (by decide) ?_
                rw [mq_t0 (show ¬ ms_in S n ro ka kb kc k i by unfold ms_in; omega)] at hl
                replace hl : lv_has ls 7 [(5, .int (nI (i + 1))), (4, .int (nI (ms_sum (ms_id S n ro ka kb kc k) (i + 1)))), (6, .int (nI 0)), (0, .ref (am 0)), (1, .int (nI ka)), (2, .int (nI kb)), (3, .int (nI kc))] := hl
                exact ih6 _ (by omega) (i + 1) rfl (by omega) ls _ _ (lv_sub hl [0, 1, 3, 4, 5, 6] rfl) hW
              · exfalso
                omega
            · refine lv_aload_n C.1 C.2.1 dX1_times_103 rfl (lv_at hl 2 rfl) ?_
              refine xt_get xt_inX1 C hW 0 rfl rfl 4 (by decide) rfl flX1_row rfl dX1_times_104 ?_
              refine lv_iload C.1 C.2.1 dX1_times_107 (lv_at hl 0 rfl) ?_
              refine xt_iald C hW 2 rfl (by decide) dX1_times_109 (by omega) ?_
              refine lv_iload_n C.1 C.2.1 dX1_times_110 rfl (lv_at hl 5 rfl) ?_
              refine xt_icmp_ne C (by omega) (by omega) dX1_times_111 (tgt := 118) (by decide) (fun h111 => ?_) (fun h111 => ?_)
              · refine xt_iconst C 0 dX1_times_118 (by decide +kernel) ?_
                refine lv_istore C.1 C.2.1 dX1_times_119 hl (by decide) rfl (fun ls hl => ?_)
                replace hl : lv_has ls 7 [(6, .int (nI 0)), (5, .int (nI i)), (4, .int (nI (ms_sum (ms_id S n ro ka kb kc k) i))), (0, .ref (am 0)), (1, .int (nI ka)), (2, .int (nI kb)), (3, .int (nI kc))] := hl
                refine lv_iload C.1 C.2.1 dX1_times_121 (lv_at hl 0 rfl) ?_
                refine xt_if_eq C (by omega) dX1_times_123 (tgt := 133) (by decide) (fun h123 => ?_) (fun h123 => ?_)
                · refine lv_iload C.1 C.2.1 dX1_times_133 (lv_at hl 2 rfl) ?_
                  refine lv_istore C.1 C.2.1 dX1_times_135 hl (by decide) rfl (fun ls hl => ?_)
                  replace hl : lv_has ls 7 [(4, .int (nI (ms_sum (ms_id S n ro ka kb kc k) i))), (6, .int (nI 0)), (5, .int (nI i)), (0, .ref (am 0)), (1, .int (nI ka)), (2, .int (nI kb)), (3, .int (nI kc))] := hl
                  refine lv_iinc (k := 2) C.1 C.2.1 dX1_times_137 hl rfl xt_inc (by decide) rfl (fun ls hl => ?_)
                  replace hl : lv_has ls 7 [(5, .int (nI (i + 1))), (4, .int (nI (ms_sum (ms_id S n ro ka kb kc k) i))), (6, .int (nI 0)), (0, .ref (am 0)), (1, .int (nI ka)), (2, .int (nI kb)), (3, .int (nI kc))] := hl
                  refine lv_goto C.1 C.2.1 dX1_times_140 (tgt := 6) (by decide) ?_
                  rw [mq_t0 (show ¬ ms_in S n ro ka kb kc k i by unfold ms_in; omega)] at hl
                  replace hl : lv_has ls 7 [(5, .int (nI (i + 1))), (4, .int (nI (ms_sum (ms_id S n ro ka kb kc k) (i + 1)))), (6, .int (nI 0)), (0, .ref (am 0)), (1, .int (nI ka)), (2, .int (nI kb)), (3, .int (nI kc))] := hl
                  exact ih6 _ (by omega) (i + 1) rfl (by omega) ls _ _ (lv_sub hl [0, 1, 3, 4, 5, 6] rfl) hW
                · exfalso
                  omega
              · refine xt_iconst C 1 dX1_times_114 (by decide +kernel) ?_
                refine lv_goto C.1 C.2.1 dX1_times_115 (tgt := 119) (by decide) ?_
                refine lv_istore C.1 C.2.1 dX1_times_119 hl (by decide) rfl (fun ls hl => ?_)
                replace hl : lv_has ls 7 [(6, .int (nI 1)), (5, .int (nI i)), (4, .int (nI (ms_sum (ms_id S n ro ka kb kc k) i))), (0, .ref (am 0)), (1, .int (nI ka)), (2, .int (nI kb)), (3, .int (nI kc))] := hl
                refine lv_iload C.1 C.2.1 dX1_times_121 (lv_at hl 0 rfl) ?_
                refine xt_if_eq C (by omega) dX1_times_123 (tgt := 133) (by decide) (fun h123 => ?_) (fun h123 => ?_)
                · exfalso
                  omega
                · refine lv_iload C.1 C.2.1 dX1_times_126 (lv_at hl 2 rfl) ?_
                  refine xt_iconst C 1 dX1_times_128 (by decide +kernel) ?_
                  refine xt_iadd C dX1_times_129 ?_
                  refine lv_goto C.1 C.2.1 dX1_times_130 (tgt := 135) (by decide) ?_
                  refine lv_istore C.1 C.2.1 dX1_times_135 hl (by decide) rfl (fun ls hl => ?_)
                  replace hl : lv_has ls 7 [(4, .int (nI ((ms_sum (ms_id S n ro ka kb kc k) i) + 1))), (6, .int (nI 1)), (5, .int (nI i)), (0, .ref (am 0)), (1, .int (nI ka)), (2, .int (nI kb)), (3, .int (nI kc))] := hl
                  refine lv_iinc (k := 2) C.1 C.2.1 dX1_times_137 hl rfl xt_inc (by decide) rfl (fun ls hl => ?_)
                  replace hl : lv_has ls 7 [(5, .int (nI (i + 1))), (4, .int (nI ((ms_sum (ms_id S n ro ka kb kc k) i) + 1))), (6, .int (nI 1)), (0, .ref (am 0)), (1, .int (nI ka)), (2, .int (nI kb)), (3, .int (nI kc))] := hl
                  refine lv_goto C.1 C.2.1 dX1_times_140 (tgt := 6) (by decide) ?_
                  rw [mq_t1 (show ms_in S n ro ka kb kc k i by unfold ms_in; omega)] at hl
                  replace hl : lv_has ls 7 [(5, .int (nI (i + 1))), (4, .int (nI (ms_sum (ms_id S n ro ka kb kc k) (i + 1)))), (6, .int (nI 1)), (0, .ref (am 0)), (1, .int (nI ka)), (2, .int (nI kb)), (3, .int (nI kc))] := hl
                  exact ih6 _ (by omega) (i + 1) rfl (by omega) ls _ _ (lv_sub hl [0, 1, 3, 4, 5, 6] rfl) hW
          · refine lv_iload C.1 C.2.1 dX1_times_49 (lv_at hl 0 rfl) ?_
            refine xt_iconst C 1 dX1_times_51 (by decide +kernel) ?_
            refine xt_iadd C dX1_times_52 ?_
            refine lv_aload_n C.1 C.2.1 dX1_times_53 rfl (lv_at hl 2 rfl) ?_
            refine xt_get xt_inX1 C hW 0 rfl rfl 3 (by decide) rfl flX1_n rfl dX1_times_54 ?_
            refine xt_icmp_ge C (by omega) (by omega) dX1_times_57 (tgt := 88) (by decide) (fun h57 => ?_) (fun h57 => ?_)
            · refine xt_iconst C 0 dX1_times_88 (by decide +kernel) ?_
              refine lv_goto C.1 C.2.1 dX1_times_89 (tgt := 119) (by decide) ?_
              refine lv_istore C.1 C.2.1 dX1_times_119 hl (by decide) rfl (fun ls hl => ?_)
              replace hl : lv_has ls 7 [(6, .int (nI 0)), (5, .int (nI i)), (4, .int (nI (ms_sum (ms_id S n ro ka kb kc k) i))), (0, .ref (am 0)), (1, .int (nI ka)), (2, .int (nI kb)), (3, .int (nI kc))] := hl
              refine lv_iload C.1 C.2.1 dX1_times_121 (lv_at hl 0 rfl) ?_
              refine xt_if_eq C (by omega) dX1_times_123 (tgt := 133) (by decide) (fun h123 => ?_) (fun h123 => ?_)
              · refine lv_iload C.1 C.2.1 dX1_times_133 (lv_at hl 2 rfl) ?_
                refine lv_istore C.1 C.2.1 dX1_times_135 hl (by decide) rfl (fun ls hl => ?_)
                replace hl : lv_has ls 7 [(4, .int (nI (ms_sum (ms_id S n ro ka kb kc k) i))), (6, .int (nI 0)), (5, .int (nI i)), (0, .ref (am 0)), (1, .int (nI ka)), (2, .int (nI kb)), (3, .int (nI kc))] := hl
                refine lv_iinc (k := 2) C.1 C.2.1 dX1_times_137 hl rfl xt_inc (by decide) rfl (fun ls hl => ?_)
                replace hl : lv_has ls 7 [(5, .int (nI (i + 1))), (4, .int (nI (ms_sum (ms_id S n ro ka kb kc k) i))), (6, .int (nI 0)), (0, .ref (am 0)), (1, .int (nI ka)), (2, .int (nI kb)), (3, .int (nI kc))] := hl
                refine lv_goto C.1 C.2.1 dX1_times_140 (tgt := 6) (by decide) ?_
                rw [mq_t0 (show ¬ ms_in S n ro ka kb kc k i by unfold ms_in; omega)] at hl
                replace hl : lv_has ls 7 [(5, .int (nI (i + 1))), (4, .int (nI (ms_sum (ms_id S n ro ka kb kc k) (i + 1)))), (6, .int (nI 0)), (0, .ref (am 0)), (1, .int (nI ka)), (2, .int (nI kb)), (3, .int (nI kc))] := hl
                exact ih6 _ (by omega) (i + 1) rfl (by omega) ls _ _ (lv_sub hl [0, 1, 3, 4, 5, 6] rfl) hW
              · exfalso
                omega
            · have hwj := hwa (i + 1) (by omega)
              refine lv_aload_n C.1 C.2.1 dX1_times_60 rfl (lv_at hl 2 rfl) ?_
              refine xt_get xt_inX1 C hW 0 rfl rfl 5 (by decide) rfl flX1_way rfl dX1_times_61 ?_
              refine lv_iload C.1 C.2.1 dX1_times_64 (lv_at hl 0 rfl) ?_
              refine xt_iald C hW 3 rfl (by decide) dX1_times_66 (by omega) ?_
              refine lv_iload_n C.1 C.2.1 dX1_times_67 rfl (lv_at hl 4 rfl) ?_
              refine xt_icmp_ne C (by omega) (by omega) dX1_times_68 (tgt := 88) (by decide) (fun h68 => ?_) (fun h68 => ?_)
              · refine xt_iconst C 0 dX1_times_88 (by decide +kernel) ?_
                refine lv_goto C.1 C.2.1 dX1_times_89 (tgt := 119) (by decide) ?_
                refine lv_istore C.1 C.2.1 dX1_times_119 hl (by decide) rfl (fun ls hl => ?_)
                replace hl : lv_has ls 7 [(6, .int (nI 0)), (5, .int (nI i)), (4, .int (nI (ms_sum (ms_id S n ro ka kb kc k) i))), (0, .ref (am 0)), (1, .int (nI ka)), (2, .int (nI kb)), (3, .int (nI kc))] := hl
                refine lv_iload C.1 C.2.1 dX1_times_121 (lv_at hl 0 rfl) ?_
                refine xt_if_eq C (by omega) dX1_times_123 (tgt := 133) (by decide) (fun h123 => ?_) (fun h123 => ?_)
                · refine lv_iload C.1 C.2.1 dX1_times_133 (lv_at hl 2 rfl) ?_
                  refine lv_istore C.1 C.2.1 dX1_times_135 hl (by decide) rfl (fun ls hl => ?_)
                  replace hl : lv_has ls 7 [(4, .int (nI (ms_sum (ms_id S n ro ka kb kc k) i))), (6, .int (nI 0)), (5, .int (nI i)), (0, .ref (am 0)), (1, .int (nI ka)), (2, .int (nI kb)), (3, .int (nI kc))] := hl
                  refine lv_iinc (k := 2) C.1 C.2.1 dX1_times_137 hl rfl xt_inc (by decide) rfl (fun ls hl => ?_)
                  replace hl : lv_has ls 7 [(5, .int (nI (i + 1))), (4, .int (nI (ms_sum (ms_id S n ro ka kb kc k) i))), (6, .int (nI 0)), (0, .ref (am 0)), (1, .int (nI ka)), (2, .int (nI kb)), (3, .int (nI kc))] := hl
                  refine lv_goto C.1 C.2.1 dX1_times_140 (tgt := 6) (by decide) ?_
                  rw [mq_t0 (show ¬ ms_in S n ro ka kb kc k i by unfold ms_in; omega)] at hl
                  replace hl : lv_has ls 7 [(5, .int (nI (i + 1))), (4, .int (nI (ms_sum (ms_id S n ro ka kb kc k) (i + 1)))), (6, .int (nI 0)), (0, .ref (am 0)), (1, .int (nI ka)), (2, .int (nI kb)), (3, .int (nI kc))] := hl
                  exact ih6 _ (by omega) (i + 1) rfl (by omega) ls _ _ (lv_sub hl [0, 1, 3, 4, 5, 6] rfl) hW
                · exfalso
                  omega
              · refine lv_aload_n C.1 C.2.1 dX1_times_71 rfl (lv_at hl 2 rfl) ?_
                refine xt_get xt_inX1 C hW 0 rfl rfl 5 (by decide) rfl flX1_way rfl dX1_times_72 ?_
                refine lv_iload C.1 C.2.1 dX1_times_75 (lv_at hl 0 rfl) ?_
                refine xt_iconst C 1 dX1_times_77 (by decide +kernel) ?_
                refine xt_iadd C dX1_times_78 ?_
                refine xt_iald C hW 3 rfl (by decide) dX1_times_79 (by omega) ?_
                refine lv_iload_n C.1 C.2.1 dX1_times_80 rfl (lv_at hl 5 rfl) ?_
                refine xt_icmp_ne C (by omega) (by omega) dX1_times_81 (tgt := 88) (by decide) (fun h81 => ?_) (fun h81 => ?_)
                · refine xt_iconst C 0 dX1_times_88 (by decide +kernel) ?_
                  refine lv_goto C.1 C.2.1 dX1_times_89 (tgt := 119) (by decide) ?_
                  refine lv_istore C.1 C.2.1 dX1_times_119 hl (by decide) rfl (fun ls hl => ?_)
                  replace hl : lv_has ls 7 [(6, .int (nI 0)), (5, .int (nI i)), (4, .int (nI (ms_sum (ms_id S n ro ka kb kc k) i))), (0, .ref (am 0)), (1, .int (nI ka)), (2, .int (nI kb)), (3, .int (nI kc))] := hl
                  refine lv_iload C.1 C.2.1 dX1_times_121 (lv_at hl 0 rfl) ?_
                  refine xt_if_eq C (by omega) dX1_times_123 (tgt := 133) (by decide) (fun h123 => ?_) (fun h123 => ?_)
                  · refine lv_iload C.1 C.2.1 dX1_times_133 (lv_at hl 2 rfl) ?_
                    refine lv_istore C.1 C.2.1 dX1_times_135 hl (by decide) rfl (fun ls hl => ?_)
                    replace hl : lv_has ls 7 [(4, .int (nI (ms_sum (ms_id S n ro ka kb kc k) i))), (6, .int (nI 0)), (5, .int (nI i)), (0, .ref (am 0)), (1, .int (nI ka)), (2, .int (nI kb)), (3, .int (nI kc))] := hl
                    refine lv_iinc (k := 2) C.1 C.2.1 dX1_times_137 hl rfl xt_inc (by decide) rfl (fun ls hl => ?_)
                    replace hl : lv_has ls 7 [(5, .int (nI (i + 1))), (4, .int (nI (ms_sum (ms_id S n ro ka kb kc k) i))), (6, .int (nI 0)), (0, .ref (am 0)), (1, .int (nI ka)), (2, .int (nI kb)), (3, .int (nI kc))] := hl
                    refine lv_goto C.1 C.2.1 dX1_times_140 (tgt := 6) (by decide) ?_
                    rw [mq_t0 (show ¬ ms_in S n ro ka kb kc k i by unfold ms_in; omega)] at hl
                    replace hl : lv_has ls 7 [(5, .int (nI (i + 1))), (4, .int (nI (ms_sum (ms_id S n ro ka kb kc k) (i + 1)))), (6, .int (nI 0)), (0, .ref (am 0)), (1, .int (nI ka)), (2, .int (nI kb)), (3, .int (nI kc))] := hl
                    exact ih6 _ (by omega) (i + 1) rfl (by omega) ls _ _ (lv_sub hl [0, 1, 3, 4, 5, 6] rfl) hW
                  · exfalso
                    omega
                · refine xt_iconst C 1 dX1_times_84 (by decide +kernel) ?_
                  refine lv_goto C.1 C.2.1 dX1_times_85 (tgt := 119) (by decide) ?_
                  refine lv_istore C.1 C.2.1 dX1_times_119 hl (by decide) rfl (fun ls hl => ?_)
                  replace hl : lv_has ls 7 [(6, .int (nI 1)), (5, .int (nI i)), (4, .int (nI (ms_sum (ms_id S n ro ka kb kc k) i))), (0, .ref (am 0)), (1, .int (nI ka)), (2, .int (nI kb)), (3, .int (nI kc))] := hl
                  refine lv_iload C.1 C.2.1 dX1_times_121 (lv_at hl 0 rfl) ?_
                  refine xt_if_eq C (by omega) dX1_times_123 (tgt := 133) (by decide) (fun h123 => ?_) (fun h123 => ?_)
                  · exfalso
                    omega
                  · refine lv_iload C.1 C.2.1 dX1_times_126 (lv_at hl 2 rfl) ?_
                    refine xt_iconst C 1 dX1_times_128 (by decide +kernel) ?_
                    refine xt_iadd C dX1_times_129 ?_
                    refine lv_goto C.1 C.2.1 dX1_times_130 (tgt := 135) (by decide) ?_
                    refine lv_istore C.1 C.2.1 dX1_times_135 hl (by decide) rfl (fun ls hl => ?_)
                    replace hl : lv_has ls 7 [(4, .int (nI ((ms_sum (ms_id S n ro ka kb kc k) i) + 1))), (6, .int (nI 1)), (5, .int (nI i)), (0, .ref (am 0)), (1, .int (nI ka)), (2, .int (nI kb)), (3, .int (nI kc))] := hl
                    refine lv_iinc (k := 2) C.1 C.2.1 dX1_times_137 hl rfl xt_inc (by decide) rfl (fun ls hl => ?_)
                    replace hl : lv_has ls 7 [(5, .int (nI (i + 1))), (4, .int (nI ((ms_sum (ms_id S n ro ka kb kc k) i) + 1))), (6, .int (nI 1)), (0, .ref (am 0)), (1, .int (nI ka)), (2, .int (nI kb)), (3, .int (nI kc))] := hl
                    refine lv_goto C.1 C.2.1 dX1_times_140 (tgt := 6) (by decide) ?_
                    rw [mq_t1 (show ms_in S n ro ka kb kc k i by unfold ms_in; omega)] at hl
                    replace hl : lv_has ls 7 [(5, .int (nI (i + 1))), (4, .int (nI (ms_sum (ms_id S n ro ka kb kc k) (i + 1)))), (6, .int (nI 1)), (0, .ref (am 0)), (1, .int (nI ka)), (2, .int (nI kb)), (3, .int (nI kc))] := hl
                    exact ih6 _ (by omega) (i + 1) rfl (by omega) ls _ _ (lv_sub hl [0, 1, 3, 4, 5, 6] rfl) hW
        · refine lv_iload C.1 C.2.1 dX1_times_19 (lv_at hl 0 rfl) ?_
          refine lv_iload_n C.1 C.2.1 dX1_times_21 rfl (lv_at hl 4 rfl) ?_
          refine xt_icmp_ne C (by omega) (by omega) dX1_times_22 (tgt := 40) (by decide) (fun h22 => ?_) (fun h22 => ?_)
          · refine xt_iconst C 0 dX1_times_40 (by decide +kernel) ?_
            refine lv_goto C.1 C.2.1 dX1_times_41 (tgt := 119) (by decide) ?_
            refine lv_istore C.1 C.2.1 dX1_times_119 hl (by decide) rfl (fun ls hl => ?_)
            replace hl : lv_has ls 7 [(6, .int (nI 0)), (5, .int (nI i)), (4, .int (nI (ms_sum (ms_id S n ro ka kb kc k) i))), (0, .ref (am 0)), (1, .int (nI ka)), (2, .int (nI kb)), (3, .int (nI kc))] := hl
            refine lv_iload C.1 C.2.1 dX1_times_121 (lv_at hl 0 rfl) ?_
            refine xt_if_eq C (by omega) dX1_times_123 (tgt := 133) (by decide) (fun h123 => ?_) (fun h123 => ?_)
            · refine lv_iload C.1 C.2.1 dX1_times_133 (lv_at hl 2 rfl) ?_
              refine lv_istore C.1 C.2.1 dX1_times_135 hl (by decide) rfl (fun ls hl => ?_)
              replace hl : lv_has ls 7 [(4, .int (nI (ms_sum (ms_id S n ro ka kb kc k) i))), (6, .int (nI 0)), (5, .int (nI i)), (0, .ref (am 0)), (1, .int (nI ka)), (2, .int (nI kb)), (3, .int (nI kc))] := hl
              refine lv_iinc (k := 2) C.1 C.2.1 dX1_times_137 hl rfl xt_inc (by decide) rfl (fun ls hl => ?_)
              replace hl : lv_has ls 7 [(5, .int (nI (i + 1))), (4, .int (nI (ms_sum (ms_id S n ro ka kb kc k) i))), (6, .int (nI 0)), (0, .ref (am 0)), (1, .int (nI ka)), (2, .int (nI kb)), (3, .int (nI kc))] := hl
              refine lv_goto C.1 C.2.1 dX1_times_140 (tgt := 6) (by decide) ?_
              rw [mq_t0 (show ¬ ms_in S n ro ka kb kc k i by unfold ms_in; omega)] at hl
              replace hl : lv_has ls 7 [(5, .int (nI (i + 1))), (4, .int (nI (ms_sum (ms_id S n ro ka kb kc k) (i + 1)))), (6, .int (nI 0)), (0, .ref (am 0)), (1, .int (nI ka)), (2, .int (nI kb)), (3, .int (nI kc))] := hl
              exact ih6 _ (by omega) (i + 1) rfl (by omega) ls _ _ (lv_sub hl [0, 1, 3, 4, 5, 6] rfl) hW
            · exfalso
              omega
          · refine lv_aload_n C.1 C.2.1 dX1_times_25 rfl (lv_at hl 2 rfl) ?_
            refine xt_get xt_inX1 C hW 0 rfl rfl 5 (by decide) rfl flX1_way rfl dX1_times_26 ?_
            refine lv_iload C.1 C.2.1 dX1_times_29 (lv_at hl 0 rfl) ?_
            refine xt_iald C hW 3 rfl (by decide) dX1_times_31 (by omega) ?_
            refine lv_iload_n C.1 C.2.1 dX1_times_32 rfl (lv_at hl 5 rfl) ?_
            refine xt_icmp_ne C (by omega) (by omega) dX1_times_33 (tgt := 40) (by decide) (fun h33 => ?_) (fun h33 => ?_)
            · refine xt_iconst C 0 dX1_times_40 (by decide +kernel) ?_
              refine lv_goto C.1 C.2.1 dX1_times_41 (tgt := 119) (by decide) ?_
              refine lv_istore C.1 C.2.1 dX1_times_119 hl (by decide) rfl (fun ls hl => ?_)
              replace hl : lv_has ls 7 [(6, .int (nI 0)), (5, .int (nI i)), (4, .int (nI (ms_sum (ms_id S n ro ka kb kc k) i))), (0, .ref (am 0)), (1, .int (nI ka)), (2, .int (nI kb)), (3, .int (nI kc))] := hl
              refine lv_iload C.1 C.2.1 dX1_times_121 (lv_at hl 0 rfl) ?_
              refine xt_if_eq C (by omega) dX1_times_123 (tgt := 133) (by decide) (fun h123 => ?_) (fun h123 => ?_)
              · refine lv_iload C.1 C.2.1 dX1_times_133 (lv_at hl 2 rfl) ?_
                refine lv_istore C.1 C.2.1 dX1_times_135 hl (by decide) rfl (fun ls hl => ?_)
                replace hl : lv_has ls 7 [(4, .int (nI (ms_sum (ms_id S n ro ka kb kc k) i))), (6, .int (nI 0)), (5, .int (nI i)), (0, .ref (am 0)), (1, .int (nI ka)), (2, .int (nI kb)), (3, .int (nI kc))] := hl
                refine lv_iinc (k := 2) C.1 C.2.1 dX1_times_137 hl rfl xt_inc (by decide) rfl (fun ls hl => ?_)
                replace hl : lv_has ls 7 [(5, .int (nI (i + 1))), (4, .int (nI (ms_sum (ms_id S n ro ka kb kc k) i))), (6, .int (nI 0)), (0, .ref (am 0)), (1, .int (nI ka)), (2, .int (nI kb)), (3, .int (nI kc))] := hl
                refine lv_goto C.1 C.2.1 dX1_times_140 (tgt := 6) (by decide) ?_
                rw [mq_t0 (show ¬ ms_in S n ro ka kb kc k i by unfold ms_in; omega)] at hl
                replace hl : lv_has ls 7 [(5, .int (nI (i + 1))), (4, .int (nI (ms_sum (ms_id S n ro ka kb kc k) (i + 1)))), (6, .int (nI 0)), (0, .ref (am 0)), (1, .int (nI ka)), (2, .int (nI kb)), (3, .int (nI kc))] := hl
                exact ih6 _ (by omega) (i + 1) rfl (by omega) ls _ _ (lv_sub hl [0, 1, 3, 4, 5, 6] rfl) hW
              · exfalso
                omega
            · refine xt_iconst C 1 dX1_times_36 (by decide +kernel) ?_
              refine lv_goto C.1 C.2.1 dX1_times_37 (tgt := 119) (by decide) ?_
              refine lv_istore C.1 C.2.1 dX1_times_119 hl (by decide) rfl (fun ls hl => ?_)
              replace hl : lv_has ls 7 [(6, .int (nI 1)), (5, .int (nI i)), (4, .int (nI (ms_sum (ms_id S n ro ka kb kc k) i))), (0, .ref (am 0)), (1, .int (nI ka)), (2, .int (nI kb)), (3, .int (nI kc))] := hl
              refine lv_iload C.1 C.2.1 dX1_times_121 (lv_at hl 0 rfl) ?_
              refine xt_if_eq C (by omega) dX1_times_123 (tgt := 133) (by decide) (fun h123 => ?_) (fun h123 => ?_)
              · exfalso
                omega
              · refine lv_iload C.1 C.2.1 dX1_times_126 (lv_at hl 2 rfl) ?_
                refine xt_iconst C 1 dX1_times_128 (by decide +kernel) ?_
                refine xt_iadd C dX1_times_129 ?_
                refine lv_goto C.1 C.2.1 dX1_times_130 (tgt := 135) (by decide) ?_
                refine lv_istore C.1 C.2.1 dX1_times_135 hl (by decide) rfl (fun ls hl => ?_)
                replace hl : lv_has ls 7 [(4, .int (nI ((ms_sum (ms_id S n ro ka kb kc k) i) + 1))), (6, .int (nI 1)), (5, .int (nI i)), (0, .ref (am 0)), (1, .int (nI ka)), (2, .int (nI kb)), (3, .int (nI kc))] := hl
                refine lv_iinc (k := 2) C.1 C.2.1 dX1_times_137 hl rfl xt_inc (by decide) rfl (fun ls hl => ?_)
                replace hl : lv_has ls 7 [(5, .int (nI (i + 1))), (4, .int (nI ((ms_sum (ms_id S n ro ka kb kc k) i) + 1))), (6, .int (nI 1)), (0, .ref (am 0)), (1, .int (nI ka)), (2, .int (nI kb)), (3, .int (nI kc))] := hl
                refine lv_goto C.1 C.2.1 dX1_times_140 (tgt := 6) (by decide) ?_
                rw [mq_t1 (show ms_in S n ro ka kb kc k i by unfold ms_in; omega)] at hl
                replace hl : lv_has ls 7 [(5, .int (nI (i + 1))), (4, .int (nI (ms_sum (ms_id S n ro ka kb kc k) (i + 1)))), (6, .int (nI 1)), (0, .ref (am 0)), (1, .int (nI ka)), (2, .int (nI kb)), (3, .int (nI kc))] := hl
                exact ih6 _ (by omega) (i + 1) rfl (by omega) ls _ _ (lv_sub hl [0, 1, 3, 4, 5, 6] rfl) hW
  exact lp6 _ 0 rfl (Nat.zero_le _) ls _ _ (lv_sub hl [0, 1, 2, 3, 4, 5] rfl) hW
set_option maxHeartbeats 4000000 in
set_option maxRecDepth 100000 in
theorem cm_sum (l : Launch) (D : va_G) (cI cL : ClassId) (am : Nat → Nat) (S K n iz dz tp bt : Nat) (w ro wa ch al fr : Nat → Nat) (ka : Nat) (kb : Nat) (kc : Nat) (hV : mq_V S K n w ro) (ha3 : ka < 3) (hb30 : kb < 2 ^ 30) (hc30 : kc < 2 ^ 30) : xt_M l yX1_sum cX1_sum 10 (some .long) 2 D cI cL [.ref (am 0), .int (nI ka), .int (nI kb), .int (nI kc)] (xM am cI cL S K n iz dz tp bt w ro wa ch al fr) (xt_Ql D cI cL (xM am cI cL S K n iz dz tp bt w ro wa ch al fr) (fun (r : Int64) (u : (Nat → Nat)) => r = lN (mq_un S n w ro ka kb kc)) (fun u => xM am cI cL S K n iz dz tp bt w ro u ch al fr)) := by
  have hV2 := hV
  obtain ⟨hS0, hS3, hK0, hK4, hn6, hw, hsK⟩ := hV
  have hsy : ∀ p, p < n → ro p < 4 := fun p h => Nat.lt_of_lt_of_le (hsK p h) hK4
  have hpb := ms_pow_le hS3 hn6
  refine xt_start (own := RX1) rfl (by decide) (Nat.le_of_ble_eq_true rfl) (fun pg ev ss mi args below meth cd A Q ls C hE hA hl hW => ?_)
  replace hl : lv_has ls 10 [(0, .ref (am 0)), (1, .int (nI ka)), (2, .int (nI kb)), (3, .int (nI kc))] := hl
  refine xt_lconst C 0 dX1_sum_0 (by decide +kernel) ?_
  refine lv_lstore C.1 C.2.1 dX1_sum_1 hl (by decide) rfl (fun ls hl => ?_)
  replace hl : lv_has ls 10 [(4, .long (lN 0)), (0, .ref (am 0)), (1, .int (nI ka)), (2, .int (nI kb)), (3, .int (nI kc))] := hl
  refine lv_aload_n C.1 C.2.1 dX1_sum_3 rfl (lv_at hl 1 rfl) ?_
  refine lv_aload_n C.1 C.2.1 dX1_sum_4 rfl (lv_at hl 1 rfl) ?_
  refine xt_get xt_inX1 C hW 0 rfl rfl 3 (by decide) rfl flX1_n rfl dX1_sum_5 ?_
  refine xt_ci hA hW (xt_runV C hW.1 hW.2.1 cwX1_X1_power (cm_power l D cI cL am S K n iz dz tp bt w ro wa ch al fr n (by omega)) rfl rfl rfl hl.1 (rest := []) rfl (Nat.le_of_ble_eq_true rfl) ⟨(Nat.le_of_ble_eq_true rfl), (Nat.le_of_ble_eq_true rfl)⟩ ⟨Nat.zero_le _, Nat.zero_le _⟩ dX1_sum_8) (fun r8 u H locs hp8 hW => ?_)
  replace hW : xt_W D A ss.heap (xM am cI cL S K n iz dz tp bt w ro wa ch al fr) H locs := hW
  subst hp8
  refine lv_istore C.1 C.2.1 dX1_sum_11 hl (by decide) rfl (fun ls hl => ?_)
  replace hl : lv_has ls 10 [(6, .int (nI (S ^ n))), (4, .long (lN 0)), (0, .ref (am 0)), (1, .int (nI ka)), (2, .int (nI kb)), (3, .int (nI kc))] := hl
  refine xt_iconst C 0 dX1_sum_13 (by decide +kernel) ?_
  refine lv_istore C.1 C.2.1 dX1_sum_14 hl (by decide) rfl (fun ls hl => ?_)
  replace hl : lv_has ls 10 [(7, .int (nI 0)), (6, .int (nI (S ^ n))), (4, .long (lN 0)), (0, .ref (am 0)), (1, .int (nI ka)), (2, .int (nI kb)), (3, .int (nI kc))] := hl
  have lp16 : ∀ (mq0 : Nat) (i : Nat) (wv : Nat → Nat), S ^ n - i = mq0 → (i ≤ S ^ n) → ∀ (ls : Array Slot) (H : Heap) (locs : List Loc), lv_has ls 10 [(7, .int (nI i)), (6, .int (nI (S ^ n))), (4, .long (lN (ms_sum (fun z1 => ms_wt (me w ro) S n z1 * ms_tm S n ro ka kb kc z1) i))), (0, .ref (am 0)), (1, .int (nI ka)), (2, .int (nI kb)), (3, .int (nI kc))] → xt_W D A ss.heap (xM am cI cL S K n iz dz tp bt w ro wv ch al fr) H locs → W pg l ev (xt_R 2) ss mi args below meth cd H locs 0 0 Q (F0 mi 16 ls []) := by
    intro mq0
    induction mq0 using Nat.strongRecOn with
    | _ mq0 ih16 =>
      intro i wv hq16 hi ls H locs hl hW
      refine lv_iload C.1 C.2.1 dX1_sum_16 (lv_at hl 0 rfl) ?_
      refine lv_iload C.1 C.2.1 dX1_sum_18 (lv_at hl 1 rfl) ?_
      refine xt_icmp_ge C (by omega) (by omega) dX1_sum_20 (tgt := 53) (by decide) (fun h20 => ?_) (fun h20 => ?_)
      · refine lv_lload C.1 C.2.1 dX1_sum_53 (lv_at hl 2 rfl) ?_
        exact xt_lret C hE wv hW (by show lN (ms_sum _ i) = lN _; rw [show i = S ^ n by omega]; rfl) dX1_sum_55
      · refine lv_aload_n C.1 C.2.1 dX1_sum_23 rfl (lv_at hl 3 rfl) ?_
        refine lv_iload C.1 C.2.1 dX1_sum_24 (lv_at hl 0 rfl) ?_
        refine xt_cl hA hW (xt_runV C hW.1 hW.2.1 cwX1_X1_weightOf (cm_weightOf l D cI cL am S K n iz dz tp bt w ro wv ch al fr i (hV2) (by omega)) rfl rfl rfl hl.1 (rest := []) rfl (Nat.le_of_ble_eq_true rfl) ⟨(Nat.le_of_ble_eq_true rfl), (Nat.le_of_ble_eq_true rfl)⟩ ⟨Nat.zero_le _, Nat.zero_le _⟩ dX1_sum_26) (fun r26 u H locs hp26 hW => ?_)
        obtain ⟨wa_26, rfl⟩ : ∃ z, z = u := ⟨_, rfl⟩
        replace hW : xt_W D A ss.heap (xM am cI cL S K n iz dz tp bt w ro wa_26 ch al fr) H locs := hW
        replace hp26 : r26 = lN (ms_wt (me w ro) S n i) ∧ ∀ z1, z1 < n → wa_26 z1 = ms_dg S n i z1 := hp26
        obtain ⟨rfl, hp26⟩ := hp26
        refine lv_lstore C.1 C.2.1 dX1_sum_29 hl (by decide) rfl (fun ls hl => ?_)
        replace hl : lv_has ls 10 [(8, .long (lN (ms_wt (me w ro) S n i))), (7, .int (nI i)), (6, .int (nI (S ^ n))), (4, .long (lN (ms_sum (fun z1 => ms_wt (me w ro) S n z1 * ms_tm S n ro ka kb kc z1) i))), (0, .ref (am 0)), (1, .int (nI ka)), (2, .int (nI kb)), (3, .int (nI kc))] := hl
        refine lv_lload C.1 C.2.1 dX1_sum_31 (lv_at hl 3 rfl) ?_
        refine lv_lload C.1 C.2.1 dX1_sum_33 (lv_at hl 0 rfl) ?_
        refine lv_aload_n C.1 C.2.1 dX1_sum_35 rfl (lv_at hl 4 rfl) ?_
        refine lv_iload_n C.1 C.2.1 dX1_sum_36 rfl (lv_at hl 5 rfl) ?_
        refine lv_iload_n C.1 C.2.1 dX1_sum_37 rfl (lv_at hl 6 rfl) ?_
        refine lv_iload_n C.1 C.2.1 dX1_sum_38 rfl (lv_at hl 7 rfl) ?_
        refine xt_ci hA hW (xt_runV C hW.1 hW.2.1 cwX1_X1_times (cm_times l D cI cL am S K n iz dz tp bt w ro wa_26 ch al fr ka kb kc i (by omega) (by omega) (by omega) (by omega) (by omega) (by omega) (hsy) (hp26)) rfl rfl rfl hl.1 (rest := [.long (lN (ms_wt (me w ro) S n i)), .long (lN (ms_sum (fun z1 => ms_wt (me w ro) S n z1 * ms_tm S n ro ka kb kc z1) i))]) rfl (Nat.le_of_ble_eq_true rfl) ⟨(Nat.le_of_ble_eq_true rfl), (Nat.le_of_ble_eq_true rfl)⟩ ⟨Nat.zero_le _, Nat.zero_le _⟩ dX1_sum_39) (fun r39 u H locs hp39 hW => ?_)
        replace hW : xt_W D A ss.heap (xM am cI cL S K n iz dz tp bt w ro wa_26 ch al fr) H locs := hW
        subst hp39
        refine xt_i2l C dX1_sum_42 (by have := ms_tm_le S n ro ka kb kc i; omega) ?_
        refine W.eq (g2 := F0 mi 43 ls [.long (lN (ms_tm S n ro ka kb kc i)), .long (lN (ms_wt (me w ro) S n i)), .long (lN (ms_sum (fun z1 => ms_wt (me w ro) S n z1 * ms_tm S n ro ka kb kc z1) i))]) rfl ?_
        refine xt_lmul C dX1_sum_43 ?_
        refine xt_ladd C dX1_sum_44 ?_
        refine lv_lstore C.1 C.2.1 dX1_sum_45 hl (by decide) rfl (fun ls hl => ?_)
        replace hl : lv_has ls 10 [(4, .long (lN ((ms_sum (fun z1 => ms_wt (me w ro) S n z1 * ms_tm S n ro ka kb kc z1) i) + ((ms_wt (me w ro) S n i) * (ms_tm S n ro ka kb kc i))))), (8, .long (lN (ms_wt (me w ro) S n i))), (7, .int (nI i)), (6, .int (nI (S ^ n))), (0, .ref (am 0)), (1, .int (nI ka)), (2, .int (nI kb)), (3, .int (nI kc))] := hl
        refine lv_iinc (k := 2) C.1 C.2.1 dX1_sum_47 hl rfl xt_inc (by decide) rfl (fun ls hl => ?_)
        replace hl : lv_has ls 10 [(7, .int (nI (i + 1))), (4, .long (lN ((ms_sum (fun z1 => ms_wt (me w ro) S n z1 * ms_tm S n ro ka kb kc z1) i) + ((ms_wt (me w ro) S n i) * (ms_tm S n ro ka kb kc i))))), (8, .long (lN (ms_wt (me w ro) S n i))), (6, .int (nI (S ^ n))), (0, .ref (am 0)), (1, .int (nI ka)), (2, .int (nI kb)), (3, .int (nI kc))] := hl
        refine lv_goto C.1 C.2.1 dX1_sum_50 (tgt := 16) (by decide) ?_
        exact ih16 _ (by omega) (i + 1) wa_26 rfl (by omega) ls _ _ (lv_sub hl [0, 3, 1, 4, 5, 6, 7] rfl) hW
  exact lp16 _ 0 wa rfl (Nat.zero_le _) ls _ _ (lv_sub hl [0, 1, 2, 3, 4, 5, 6] rfl) hW
set_option maxHeartbeats 4000000 in
set_option maxRecDepth 100000 in
theorem cm_columns (l : Launch) (D : va_G) (cI cL : ClassId) (am : Nat → Nat) (S K n iz dz tp bt : Nat) (w ro wa ch al fr : Nat → Nat) (a : Nat) (ha30 : a < 2 ^ 30) : xt_M l yX1_columns cX1_columns 2 (some .int) 0 D cI cL [.ref (am 0), .int (nI a)] (xM am cI cL S K n iz dz tp bt w ro wa ch al fr) (xt_Qi D cI cL (xM am cI cL S K n iz dz tp bt w ro wa ch al fr) (fun (r : Int32) (u : Unit) => r = nI (xq_cl S K a)) (fun u => xM am cI cL S K n iz dz tp bt w ro wa ch al fr)) := by
  refine xt_start (own := RX1) rfl (by decide) (Nat.le_of_ble_eq_true rfl) (fun pg ev ss mi args below meth cd A Q ls C hE hA hl hW => ?_)
  replace hl : lv_has ls 2 [(0, .ref (am 0)), (1, .int (nI a))] := hl
  refine lv_iload_n C.1 C.2.1 dX1_columns_0 rfl (lv_at hl 1 rfl) ?_
  refine xt_iconst C 2 dX1_columns_1 (by decide +kernel) ?_
  refine xt_icmp_ne C (by omega) (by omega) dX1_columns_2 (tgt := 12) (by decide) (fun h2 => ?_) (fun h2 => ?_)
  · refine lv_aload_n C.1 C.2.1 dX1_columns_12 rfl (lv_at hl 0 rfl) ?_
    refine xt_get xt_inX1 C hW 0 rfl rfl 0 (by decide) rfl flX1_states rfl dX1_columns_13 ?_
    exact xt_iret C hE () hW (by show nI _ = nI _; unfold xq_cl; first | rw [if_pos h2] | rw [if_neg h2]) dX1_columns_16
  · refine lv_aload_n C.1 C.2.1 dX1_columns_5 rfl (lv_at hl 0 rfl) ?_
    refine xt_get xt_inX1 C hW 0 rfl rfl 1 (by decide) rfl flX1_symbols rfl dX1_columns_6 ?_
    refine lv_goto C.1 C.2.1 dX1_columns_9 (tgt := 16) (by decide) ?_
    exact xt_iret C hE () hW (by show nI _ = nI _; unfold xq_cl; first | rw [if_pos h2] | rw [if_neg h2]) dX1_columns_16
set_option maxHeartbeats 4000000 in
set_option maxRecDepth 100000 in
theorem cm_share_y (l : Launch) (D : va_G) (cI cL : ClassId) (am : Nat → Nat) (S K n iz dz tp bt : Nat) (w ro wa ch al fr : Nat → Nat) (ka : Nat) (kb : Nat) (kc : Nat) (x : Int32) (hV : mq_V S K n w ro) (hs : xq_sr S K n ka kb kc) : xt_M l yX1_share cX1_share 8 (some .long) 3 D cI cL [.ref (am 0), .int (nI ka), .int (nI kb), .int (nI kc), .int x] (xM am cI cL S K n iz dz tp bt w ro wa ch al fr) (xt_Ql D cI cL (xM am cI cL S K n iz dz tp bt w ro wa ch al fr) (fun (r : Int64) (u : (Nat → Nat) × (Nat) × (Nat)) => r = lN (xq_pt (mq_un S n w ro ka kb kc) (ms_sum (fun z1 => ms_wt (me w ro) S n z1) (S ^ n)) x)) (fun u => xM am cI cL S K n iz dz u.2.1 u.2.2 w ro u.1 ch al fr)) := by
  have hV2 := hV
  obtain ⟨hS0, hS3, hK0, hK4, hn6, hw, hsK⟩ := hV
  have hsy : ∀ p, p < n → ro p < 4 := fun p h => Nat.lt_of_lt_of_le (hsK p h) hK4
  have hsu := hs; unfold xq_sr at hsu
  have htb := mq_totb (n := n) hS0 hS3 hn6 hw hsy
  have hub := mq_unb (n := n) (ka := ka) (kb := kb) (kc := kc) hS0 hS3 hn6 hw hsy
  refine xt_start (own := RX1) rfl (by decide) (Nat.le_of_ble_eq_true rfl) (fun pg ev ss mi args below meth cd A Q ls C hE hA hl hW => ?_)
  replace hl : lv_has ls 8 [(0, .ref (am 0)), (1, .int (nI ka)), (2, .int (nI kb)), (3, .int (nI kc)), (4, .int x)] := hl
  refine lv_iload_n C.1 C.2.1 dX1_share_0 rfl (lv_at hl 1 rfl) ?_
  refine xt_if_ne C (by omega) dX1_share_1 (tgt := 32) (by decide) (fun h1 => ?_) (fun h1 => ?_)
  · refine lv_aload_n C.1 C.2.1 dX1_share_32 rfl (lv_at hl 0 rfl) ?_
    refine lv_iload_n C.1 C.2.1 dX1_share_33 rfl (lv_at hl 1 rfl) ?_
    refine lv_iload_n C.1 C.2.1 dX1_share_34 rfl (lv_at hl 2 rfl) ?_
    refine lv_iload_n C.1 C.2.1 dX1_share_35 rfl (lv_at hl 3 rfl) ?_
    refine xt_ci hA hW (xt_runV C hW.1 hW.2.1 cwX1_X1_slot (cm_slot_y l D cI cL am S K n iz dz tp bt w ro wa ch al fr ka kb kc (by omega) (by omega) (xq_skr h1 hs)) rfl rfl rfl hl.1 (rest := []) rfl (Nat.le_of_ble_eq_true rfl) ⟨(Nat.le_of_ble_eq_true rfl), (Nat.le_of_ble_eq_true rfl)⟩ ⟨Nat.zero_le _, Nat.zero_le _⟩ dX1_share_36) (fun r36 u H locs hp36 hW => ?_)
    replace hW : xt_W D A ss.heap (xM am cI cL S K n iz dz tp bt w ro wa ch al fr) H locs := hW
    subst hp36
    have hslb := mq_slb hS3 hK4 (xq_skr h1 hs)
    refine xt_if_lt C (by omega) dX1_share_39 (tgt := 46) (by decide) ?_
    refine xt_iconst C 1 dX1_share_42 (by decide +kernel) ?_
    refine lv_goto C.1 C.2.1 dX1_share_43 (tgt := 47) (by decide) ?_
    refine lv_istore C.1 C.2.1 dX1_share_47 hl (by decide) rfl (fun ls hl => ?_)
    replace hl : lv_has ls 8 [(5, .int (nI 1)), (0, .ref (am 0)), (1, .int (nI ka)), (2, .int (nI kb)), (3, .int (nI kc)), (4, .int x)] := hl
    refine lv_iload C.1 C.2.1 dX1_share_49 (lv_at hl 0 rfl) ?_
    refine xt_if_ne C (by omega) dX1_share_51 (tgt := 56) (by decide) (fun h51 => ?_) (fun h51 => ?_)
    · refine lv_aload_n C.1 C.2.1 dX1_share_56 rfl (lv_at hl 1 rfl) ?_
      refine xt_cl hA hW (xt_runV C hW.1 hW.2.1 cwX1_X1_total (cm_total l D cI cL am S K n iz dz tp bt w ro wa ch al fr (hV2)) rfl rfl rfl hl.1 (rest := []) rfl (Nat.le_of_ble_eq_true rfl) ⟨(Nat.le_of_ble_eq_true rfl), (Nat.le_of_ble_eq_true rfl)⟩ ⟨Nat.zero_le _, Nat.zero_le _⟩ dX1_share_57) (fun r57 u H locs hp57 hW => ?_)
      obtain ⟨wa_57, rfl⟩ : ∃ z, z = u := ⟨_, rfl⟩
      replace hW : xt_W D A ss.heap (xM am cI cL S K n iz dz tp bt w ro wa_57 ch al fr) H locs := hW
      subst hp57
      refine lv_lstore C.1 C.2.1 dX1_share_60 hl (by decide) rfl (fun ls hl => ?_)
      replace hl : lv_has ls 8 [(6, .long (lN (ms_sum (fun z1 => ms_wt (me w ro) S n z1) (S ^ n)))), (5, .int (nI 1)), (0, .ref (am 0)), (1, .int (nI ka)), (2, .int (nI kb)), (3, .int (nI kc)), (4, .int x)] := hl
      refine lv_aload_n C.1 C.2.1 dX1_share_62 rfl (lv_at hl 2 rfl) ?_
      refine lv_lload C.1 C.2.1 dX1_share_63 (lv_at hl 0 rfl) ?_
      refine xt_lconst C 0 dX1_share_65 (by decide +kernel) ?_
      refine xt_l_ne C (htb) (by decide) dX1_share_66 dX1_share_67 (tgt := 74) (by decide) (fun h66 => ?_) (fun h66 => ?_)
      · refine lv_aload_n C.1 C.2.1 dX1_share_74 rfl (lv_at hl 2 rfl) ?_
        refine lv_iload_n C.1 C.2.1 dX1_share_75 rfl (lv_at hl 3 rfl) ?_
        refine lv_iload_n C.1 C.2.1 dX1_share_76 rfl (lv_at hl 4 rfl) ?_
        refine lv_iload_n C.1 C.2.1 dX1_share_77 rfl (lv_at hl 5 rfl) ?_
        refine xt_cl hA hW (xt_runV C hW.1 hW.2.1 cwX1_X1_sum (cm_sum l D cI cL am S K n iz dz tp bt w ro wa_57 ch al fr ka kb kc (hV2) (by omega) (by omega) (by omega)) rfl rfl rfl hl.1 (rest := [.ref (am 0)]) rfl (Nat.le_of_ble_eq_true rfl) ⟨(Nat.le_of_ble_eq_true rfl), (Nat.le_of_ble_eq_true rfl)⟩ ⟨Nat.zero_le _, Nat.zero_le _⟩ dX1_share_78) (fun r78 u H locs hp78 hW => ?_)
        obtain ⟨wa_78, rfl⟩ : ∃ z, z = u := ⟨_, rfl⟩
        replace hW : xt_W D A ss.heap (xM am cI cL S K n iz dz tp bt w ro wa_78 ch al fr) H locs := hW
        subst hp78
        refine lv_lload C.1 C.2.1 dX1_share_81 (lv_at hl 0 rfl) ?_
        refine xt_lconst C 0 dX1_share_83 (by decide +kernel) ?_
        refine xt_l_ne C (htb) (by decide) dX1_share_84 dX1_share_85 (tgt := 92) (by decide) (fun h84 => ?_) (fun h84 => ?_)
        · refine lv_lload C.1 C.2.1 dX1_share_92 (lv_at hl 0 rfl) ?_
          refine xt_cvd hA hW (xt_runV C hW.1 hW.2.1 cwX1_X1_fraction (cm_fraction l D cI cL am S K n iz dz tp bt w ro wa_78 ch al fr (mq_un S n w ro ka kb kc) (ms_sum (fun z1 => ms_wt (me w ro) S n z1) (S ^ n)) (by omega) (by omega) (by omega)) rfl rfl rfl hl.1 (rest := []) rfl (Nat.le_of_ble_eq_true rfl) ⟨(Nat.le_of_ble_eq_true rfl), (Nat.le_of_ble_eq_true rfl)⟩ ⟨Nat.zero_le _, Nat.zero_le _⟩ dX1_share_94) (fun u H locs hp94 hW => ?_)
          replace hW : xt_W D A ss.heap (xM am cI cL S K n iz dz ((mq_un S n w ro ka kb kc) / Nat.gcd (mq_un S n w ro ka kb kc) (ms_sum (fun z1 => ms_wt (me w ro) S n z1) (S ^ n))) ((ms_sum (fun z1 => ms_wt (me w ro) S n z1) (S ^ n)) / Nat.gcd (mq_un S n w ro ka kb kc) (ms_sum (fun z1 => ms_wt (me w ro) S n z1) (S ^ n))) w ro wa_78 ch al fr) H locs := hW
          refine lv_aload_n C.1 C.2.1 dX1_share_97 rfl (lv_at hl 2 rfl) ?_
          refine lv_iload C.1 C.2.1 dX1_share_98 (lv_at hl 6 rfl) ?_
          refine xt_cl hA hW (xt_runV C hW.1 hW.2.1 cwX1_X1_part (cm_part l D cI cL am S K n iz dz ((mq_un S n w ro ka kb kc) / Nat.gcd (mq_un S n w ro ka kb kc) (ms_sum (fun z1 => ms_wt (me w ro) S n z1) (S ^ n))) ((ms_sum (fun z1 => ms_wt (me w ro) S n z1) (S ^ n)) / Nat.gcd (mq_un S n w ro ka kb kc) (ms_sum (fun z1 => ms_wt (me w ro) S n z1) (S ^ n))) w ro wa_78 ch al fr x) rfl rfl rfl hl.1 (rest := []) rfl (Nat.le_of_ble_eq_true rfl) ⟨(Nat.le_of_ble_eq_true rfl), (Nat.le_of_ble_eq_true rfl)⟩ ⟨Nat.zero_le _, Nat.zero_le _⟩ dX1_share_100) (fun r100 u H locs hp100 hW => ?_)
          replace hW : xt_W D A ss.heap (xM am cI cL S K n iz dz ((mq_un S n w ro ka kb kc) / Nat.gcd (mq_un S n w ro ka kb kc) (ms_sum (fun z1 => ms_wt (me w ro) S n z1) (S ^ n))) ((ms_sum (fun z1 => ms_wt (me w ro) S n z1) (S ^ n)) / Nat.gcd (mq_un S n w ro ka kb kc) (ms_sum (fun z1 => ms_wt (me w ro) S n z1) (S ^ n))) w ro wa_78 ch al fr) H locs := hW
          subst hp100
          exact xt_lret C hE (wa_78, (mq_un S n w ro ka kb kc) / Nat.gcd (mq_un S n w ro ka kb kc) (ms_sum (fun z1 => ms_wt (me w ro) S n z1) (S ^ n)), (ms_sum (fun z1 => ms_wt (me w ro) S n z1) (S ^ n)) / Nat.gcd (mq_un S n w ro ka kb kc) (ms_sum (fun z1 => ms_wt (me w ro) S n z1) (S ^ n))) hW (by show lN _ = lN _; rw [mq_pt (by omega)]) dX1_share_103
        · exfalso
          exact h66 h84
      · refine xt_lconst C 0 dX1_share_70 (by decide +kernel) ?_
        refine lv_goto C.1 C.2.1 dX1_share_71 (tgt := 81) (by decide) ?_
        refine lv_lload C.1 C.2.1 dX1_share_81 (lv_at hl 0 rfl) ?_
        refine xt_lconst C 0 dX1_share_83 (by decide +kernel) ?_
        refine xt_l_ne C (htb) (by decide) dX1_share_84 dX1_share_85 (tgt := 92) (by decide) (fun h84 => ?_) (fun h84 => ?_)
        · exfalso
          exact h84 h66
        · refine xt_lconst C 1 dX1_share_88 (by decide +kernel) ?_
          refine lv_goto C.1 C.2.1 dX1_share_89 (tgt := 94) (by decide) ?_
          refine xt_cvd hA hW (xt_runV C hW.1 hW.2.1 cwX1_X1_fraction (cm_fraction l D cI cL am S K n iz dz tp bt w ro wa_57 ch al fr 0 1 (by omega) (by omega) (by omega)) rfl rfl rfl hl.1 (rest := []) rfl (Nat.le_of_ble_eq_true rfl) ⟨(Nat.le_of_ble_eq_true rfl), (Nat.le_of_ble_eq_true rfl)⟩ ⟨Nat.zero_le _, Nat.zero_le _⟩ dX1_share_94) (fun u H locs hp94 hW => ?_)
          replace hW : xt_W D A ss.heap (xM am cI cL S K n iz dz (0 / Nat.gcd 0 1) (1 / Nat.gcd 0 1) w ro wa_57 ch al fr) H locs := hW
          refine lv_aload_n C.1 C.2.1 dX1_share_97 rfl (lv_at hl 2 rfl) ?_
          refine lv_iload C.1 C.2.1 dX1_share_98 (lv_at hl 6 rfl) ?_
          refine xt_cl hA hW (xt_runV C hW.1 hW.2.1 cwX1_X1_part (cm_part l D cI cL am S K n iz dz (0 / Nat.gcd 0 1) (1 / Nat.gcd 0 1) w ro wa_57 ch al fr x) rfl rfl rfl hl.1 (rest := []) rfl (Nat.le_of_ble_eq_true rfl) ⟨(Nat.le_of_ble_eq_true rfl), (Nat.le_of_ble_eq_true rfl)⟩ ⟨Nat.zero_le _, Nat.zero_le _⟩ dX1_share_100) (fun r100 u H locs hp100 hW => ?_)
          replace hW : xt_W D A ss.heap (xM am cI cL S K n iz dz (0 / Nat.gcd 0 1) (1 / Nat.gcd 0 1) w ro wa_57 ch al fr) H locs := hW
          subst hp100
          exact xt_lret C hE (wa_57, 0 / Nat.gcd 0 1, 1 / Nat.gcd 0 1) hW (by show lN _ = lN _; rw [mq_ptz (mq_un0 h66)]) dX1_share_103
    · exfalso
      omega
  · refine lv_iload_n C.1 C.2.1 dX1_share_4 rfl (lv_at hl 2 rfl) ?_
    refine xt_if_lt C (by omega) dX1_share_5 (tgt := 28) (by decide) ?_
    refine lv_iload_n C.1 C.2.1 dX1_share_8 rfl (lv_at hl 2 rfl) ?_
    refine lv_aload_n C.1 C.2.1 dX1_share_9 rfl (lv_at hl 0 rfl) ?_
    refine xt_get xt_inX1 C hW 0 rfl rfl 3 (by decide) rfl flX1_n rfl dX1_share_10 ?_
    refine xt_icmp_ge C (by omega) (by omega) dX1_share_13 (tgt := 28) (by decide) (fun h13 => ?_) (fun h13 => ?_)
    · exfalso
      omega
    · refine lv_aload_n C.1 C.2.1 dX1_share_16 rfl (lv_at hl 0 rfl) ?_
      refine lv_iload_n C.1 C.2.1 dX1_share_17 rfl (lv_at hl 3 rfl) ?_
      refine xt_ci hA hW (xt_runV C hW.1 hW.2.1 cwX1_X1_state (cm_state l D cI cL am S K n iz dz tp bt w ro wa ch al fr (nI kc) (by omega)) rfl rfl rfl hl.1 (rest := []) rfl (Nat.le_of_ble_eq_true rfl) ⟨(Nat.le_of_ble_eq_true rfl), (Nat.le_of_ble_eq_true rfl)⟩ ⟨Nat.zero_le _, Nat.zero_le _⟩ dX1_share_18) (fun r18 u H locs hp18 hW => ?_)
      replace hW : xt_W D A ss.heap (xM am cI cL S K n iz dz tp bt w ro wa ch al fr) H locs := hW
      replace hp18 : (r18 = nI 1 ∧ ∃ z1, z1 < S ∧ (nI kc) = nI z1) ∨ (r18 = nI 0 ∧ ¬ ∃ z1, z1 < S ∧ (nI kc) = nI z1) := hp18
      rcases hp18 with ⟨rfl, -⟩ | ⟨-, hno⟩
      · replace hl : lv_has ls 8 [(0, .ref (am 0)), (1, .int (nI ka)), (2, .int (nI kb)), (3, .int (nI kc)), (4, .int x)] := hl
        refine xt_if_eq C (by omega) dX1_share_21 (tgt := 28) (by decide) (fun h21 => ?_) (fun h21 => ?_)
        · exfalso
          omega
        · refine xt_iconst C 1 dX1_share_24 (by decide +kernel) ?_
          refine lv_goto C.1 C.2.1 dX1_share_25 (tgt := 47) (by decide) ?_
          refine lv_istore C.1 C.2.1 dX1_share_47 hl (by decide) rfl (fun ls hl => ?_)
          replace hl : lv_has ls 8 [(5, .int (nI 1)), (0, .ref (am 0)), (1, .int (nI ka)), (2, .int (nI kb)), (3, .int (nI kc)), (4, .int x)] := hl
          refine lv_iload C.1 C.2.1 dX1_share_49 (lv_at hl 0 rfl) ?_
          refine xt_if_ne C (by omega) dX1_share_51 (tgt := 56) (by decide) (fun h51 => ?_) (fun h51 => ?_)
          · refine lv_aload_n C.1 C.2.1 dX1_share_56 rfl (lv_at hl 1 rfl) ?_
            refine xt_cl hA hW (xt_runV C hW.1 hW.2.1 cwX1_X1_total (cm_total l D cI cL am S K n iz dz tp bt w ro wa ch al fr (hV2)) rfl rfl rfl hl.1 (rest := []) rfl (Nat.le_of_ble_eq_true rfl) ⟨(Nat.le_of_ble_eq_true rfl), (Nat.le_of_ble_eq_true rfl)⟩ ⟨Nat.zero_le _, Nat.zero_le _⟩ dX1_share_57) (fun r57 u H locs hp57 hW => ?_)
            obtain ⟨wa_57, rfl⟩ : ∃ z, z = u := ⟨_, rfl⟩
            replace hW : xt_W D A ss.heap (xM am cI cL S K n iz dz tp bt w ro wa_57 ch al fr) H locs := hW
            subst hp57
            refine lv_lstore C.1 C.2.1 dX1_share_60 hl (by decide) rfl (fun ls hl => ?_)
            replace hl : lv_has ls 8 [(6, .long (lN (ms_sum (fun z1 => ms_wt (me w ro) S n z1) (S ^ n)))), (5, .int (nI 1)), (0, .ref (am 0)), (1, .int (nI ka)), (2, .int (nI kb)), (3, .int (nI kc)), (4, .int x)] := hl
            refine lv_aload_n C.1 C.2.1 dX1_share_62 rfl (lv_at hl 2 rfl) ?_
            refine lv_lload C.1 C.2.1 dX1_share_63 (lv_at hl 0 rfl) ?_
            refine xt_lconst C 0 dX1_share_65 (by decide +kernel) ?_
            refine xt_l_ne C (htb) (by decide) dX1_share_66 dX1_share_67 (tgt := 74) (by decide) (fun h66 => ?_) (fun h66 => ?_)
            · refine lv_aload_n C.1 C.2.1 dX1_share_74 rfl (lv_at hl 2 rfl) ?_
              refine lv_iload_n C.1 C.2.1 dX1_share_75 rfl (lv_at hl 3 rfl) ?_
              refine lv_iload_n C.1 C.2.1 dX1_share_76 rfl (lv_at hl 4 rfl) ?_
              refine lv_iload_n C.1 C.2.1 dX1_share_77 rfl (lv_at hl 5 rfl) ?_
              refine xt_cl hA hW (xt_runV C hW.1 hW.2.1 cwX1_X1_sum (cm_sum l D cI cL am S K n iz dz tp bt w ro wa_57 ch al fr ka kb kc (hV2) (by omega) (by omega) (by omega)) rfl rfl rfl hl.1 (rest := [.ref (am 0)]) rfl (Nat.le_of_ble_eq_true rfl) ⟨(Nat.le_of_ble_eq_true rfl), (Nat.le_of_ble_eq_true rfl)⟩ ⟨Nat.zero_le _, Nat.zero_le _⟩ dX1_share_78) (fun r78 u H locs hp78 hW => ?_)
              obtain ⟨wa_78, rfl⟩ : ∃ z, z = u := ⟨_, rfl⟩
              replace hW : xt_W D A ss.heap (xM am cI cL S K n iz dz tp bt w ro wa_78 ch al fr) H locs := hW
              subst hp78
              refine lv_lload C.1 C.2.1 dX1_share_81 (lv_at hl 0 rfl) ?_
              refine xt_lconst C 0 dX1_share_83 (by decide +kernel) ?_
              refine xt_l_ne C (htb) (by decide) dX1_share_84 dX1_share_85 (tgt := 92) (by decide) (fun h84 => ?_) (fun h84 => ?_)
              · refine lv_lload C.1 C.2.1 dX1_share_92 (lv_at hl 0 rfl) ?_
                refine xt_cvd hA hW (xt_runV C hW.1 hW.2.1 cwX1_X1_fraction (cm_fraction l D cI cL am S K n iz dz tp bt w ro wa_78 ch al fr (mq_un S n w ro ka kb kc) (ms_sum (fun z1 => ms_wt (me w ro) S n z1) (S ^ n)) (by omega) (by omega) (by omega)) rfl rfl rfl hl.1 (rest := []) rfl (Nat.le_of_ble_eq_true rfl) ⟨(Nat.le_of_ble_eq_true rfl), (Nat.le_of_ble_eq_true rfl)⟩ ⟨Nat.zero_le _, Nat.zero_le _⟩ dX1_share_94) (fun u H locs hp94 hW => ?_)
                replace hW : xt_W D A ss.heap (xM am cI cL S K n iz dz ((mq_un S n w ro ka kb kc) / Nat.gcd (mq_un S n w ro ka kb kc) (ms_sum (fun z1 => ms_wt (me w ro) S n z1) (S ^ n))) ((ms_sum (fun z1 => ms_wt (me w ro) S n z1) (S ^ n)) / Nat.gcd (mq_un S n w ro ka kb kc) (ms_sum (fun z1 => ms_wt (me w ro) S n z1) (S ^ n))) w ro wa_78 ch al fr) H locs := hW
                refine lv_aload_n C.1 C.2.1 dX1_share_97 rfl (lv_at hl 2 rfl) ?_
                refine lv_iload C.1 C.2.1 dX1_share_98 (lv_at hl 6 rfl) ?_
                refine xt_cl hA hW (xt_runV C hW.1 hW.2.1 cwX1_X1_part (cm_part l D cI cL am S K n iz dz ((mq_un S n w ro ka kb kc) / Nat.gcd (mq_un S n w ro ka kb kc) (ms_sum (fun z1 => ms_wt (me w ro) S n z1) (S ^ n))) ((ms_sum (fun z1 => ms_wt (me w ro) S n z1) (S ^ n)) / Nat.gcd (mq_un S n w ro ka kb kc) (ms_sum (fun z1 => ms_wt (me w ro) S n z1) (S ^ n))) w ro wa_78 ch al fr x) rfl rfl rfl hl.1 (rest := []) rfl (Nat.le_of_ble_eq_true rfl) ⟨(Nat.le_of_ble_eq_true rfl), (Nat.le_of_ble_eq_true rfl)⟩ ⟨Nat.zero_le _, Nat.zero_le _⟩ dX1_share_100) (fun r100 u H locs hp100 hW => ?_)
                replace hW : xt_W D A ss.heap (xM am cI cL S K n iz dz ((mq_un S n w ro ka kb kc) / Nat.gcd (mq_un S n w ro ka kb kc) (ms_sum (fun z1 => ms_wt (me w ro) S n z1) (S ^ n))) ((ms_sum (fun z1 => ms_wt (me w ro) S n z1) (S ^ n)) / Nat.gcd (mq_un S n w ro ka kb kc) (ms_sum (fun z1 => ms_wt (me w ro) S n z1) (S ^ n))) w ro wa_78 ch al fr) H locs := hW
                subst hp100
                exact xt_lret C hE (wa_78, (mq_un S n w ro ka kb kc) / Nat.gcd (mq_un S n w ro ka kb kc) (ms_sum (fun z1 => ms_wt (me w ro) S n z1) (S ^ n)), (ms_sum (fun z1 => ms_wt (me w ro) S n z1) (S ^ n)) / Nat.gcd (mq_un S n w ro ka kb kc) (ms_sum (fun z1 => ms_wt (me w ro) S n z1) (S ^ n))) hW (by show lN _ = lN _; rw [mq_pt (by omega)]) dX1_share_103
              · exfalso
                exact h66 h84
            · refine xt_lconst C 0 dX1_share_70 (by decide +kernel) ?_
              refine lv_goto C.1 C.2.1 dX1_share_71 (tgt := 81) (by decide) ?_
              refine lv_lload C.1 C.2.1 dX1_share_81 (lv_at hl 0 rfl) ?_
              refine xt_lconst C 0 dX1_share_83 (by decide +kernel) ?_
              refine xt_l_ne C (htb) (by decide) dX1_share_84 dX1_share_85 (tgt := 92) (by decide) (fun h84 => ?_) (fun h84 => ?_)
              · exfalso
                exact h84 h66
              · refine xt_lconst C 1 dX1_share_88 (by decide +kernel) ?_
                refine lv_goto C.1 C.2.1 dX1_share_89 (tgt := 94) (by decide) ?_
                refine xt_cvd hA hW (xt_runV C hW.1 hW.2.1 cwX1_X1_fraction (cm_fraction l D cI cL am S K n iz dz tp bt w ro wa_57 ch al fr 0 1 (by omega) (by omega) (by omega)) rfl rfl rfl hl.1 (rest := []) rfl (Nat.le_of_ble_eq_true rfl) ⟨(Nat.le_of_ble_eq_true rfl), (Nat.le_of_ble_eq_true rfl)⟩ ⟨Nat.zero_le _, Nat.zero_le _⟩ dX1_share_94) (fun u H locs hp94 hW => ?_)
                replace hW : xt_W D A ss.heap (xM am cI cL S K n iz dz (0 / Nat.gcd 0 1) (1 / Nat.gcd 0 1) w ro wa_57 ch al fr) H locs := hW
                refine lv_aload_n C.1 C.2.1 dX1_share_97 rfl (lv_at hl 2 rfl) ?_
                refine lv_iload C.1 C.2.1 dX1_share_98 (lv_at hl 6 rfl) ?_
                refine xt_cl hA hW (xt_runV C hW.1 hW.2.1 cwX1_X1_part (cm_part l D cI cL am S K n iz dz (0 / Nat.gcd 0 1) (1 / Nat.gcd 0 1) w ro wa_57 ch al fr x) rfl rfl rfl hl.1 (rest := []) rfl (Nat.le_of_ble_eq_true rfl) ⟨(Nat.le_of_ble_eq_true rfl), (Nat.le_of_ble_eq_true rfl)⟩ ⟨Nat.zero_le _, Nat.zero_le _⟩ dX1_share_100) (fun r100 u H locs hp100 hW => ?_)
                replace hW : xt_W D A ss.heap (xM am cI cL S K n iz dz (0 / Nat.gcd 0 1) (1 / Nat.gcd 0 1) w ro wa_57 ch al fr) H locs := hW
                subst hp100
                exact xt_lret C hE (wa_57, 0 / Nat.gcd 0 1, 1 / Nat.gcd 0 1) hW (by show lN _ = lN _; rw [mq_ptz (mq_un0 h66)]) dX1_share_103
          · exfalso
            omega
      · exact absurd (⟨kc, by omega, rfl⟩) hno
set_option maxHeartbeats 4000000 in
set_option maxRecDepth 100000 in
theorem cm_share_n (l : Launch) (D : va_G) (cI cL : ClassId) (am : Nat → Nat) (S K n iz dz tp bt : Nat) (w ro wa ch al fr : Nat → Nat) (kd : Int32) (ro2 : Int32) (co : Int32) (x : Int32) (hV : mq_V S K n w ro) (hno : ¬ (kd = nI 0 ∧ (∃ j, j < n ∧ ro2 = nI j) ∧ ∃ j, j < S ∧ co = nI j)) (hnk : ¬ (¬ kd = nI 0 ∧ ∃ a b c, xt_ok S K kd ro2 co a b c)) : xt_M l yX1_share cX1_share 8 (some .long) 3 D cI cL [.ref (am 0), .int kd, .int ro2, .int co, .int x] (xM am cI cL S K n iz dz tp bt w ro wa ch al fr) (xt_Ql D cI cL (xM am cI cL S K n iz dz tp bt w ro wa ch al fr) (fun (r : Int64) (u : Unit) => r = lN 0) (fun u => xM am cI cL S K n iz dz tp bt w ro wa ch al fr)) := by
  obtain ⟨hS0, hS3, hK0, hK4, hn6, hw, hsK⟩ := hV
  have hsy : ∀ p, p < n → ro p < 4 := fun p h => Nat.lt_of_lt_of_le (hsK p h) hK4
  refine xt_start (own := RX1) rfl (by decide) (Nat.le_of_ble_eq_true rfl) (fun pg ev ss mi args below meth cd A Q ls C hE hA hl hW => ?_)
  replace hl : lv_has ls 8 [(0, .ref (am 0)), (1, .int kd), (2, .int ro2), (3, .int co), (4, .int x)] := hl
  refine lv_iload_n C.1 C.2.1 dX1_share_0 rfl (lv_at hl 1 rfl) ?_
  refine lv_if_ne C.1 C.2.1 dX1_share_1 (tgt := 32) (by decide) (fun h1 => ?_) (fun h1 => ?_)
  · refine lv_aload_n C.1 C.2.1 dX1_share_32 rfl (lv_at hl 0 rfl) ?_
    refine lv_iload_n C.1 C.2.1 dX1_share_33 rfl (lv_at hl 1 rfl) ?_
    refine lv_iload_n C.1 C.2.1 dX1_share_34 rfl (lv_at hl 2 rfl) ?_
    refine lv_iload_n C.1 C.2.1 dX1_share_35 rfl (lv_at hl 3 rfl) ?_
    refine xt_ci hA hW (xt_runV C hW.1 hW.2.1 cwX1_X1_slot (cm_slot_n l D cI cL am S K n iz dz tp bt w ro wa ch al fr kd ro2 co (by omega) (by omega) (fun hz => hnk ⟨fun q => h1 (by rw [q]; exact nI_0), hz⟩)) rfl rfl rfl hl.1 (rest := []) rfl (Nat.le_of_ble_eq_true rfl) ⟨(Nat.le_of_ble_eq_true rfl), (Nat.le_of_ble_eq_true rfl)⟩ ⟨Nat.zero_le _, Nat.zero_le _⟩ dX1_share_36) (fun r36 u H locs hp36 hW => ?_)
    replace hW : xt_W D A ss.heap (xM am cI cL S K n iz dz tp bt w ro wa ch al fr) H locs := hW
    subst hp36
    refine lv_if_lt C.1 C.2.1 dX1_share_39 (tgt := 46) (by decide) (fun h39 => ?_) (fun h39 => ?_)
    · refine xt_iconst C 0 dX1_share_46 (by decide +kernel) ?_
      refine lv_istore C.1 C.2.1 dX1_share_47 hl (by decide) rfl (fun ls hl => ?_)
      replace hl : lv_has ls 8 [(5, .int (nI 0)), (0, .ref (am 0)), (1, .int kd), (2, .int ro2), (3, .int co), (4, .int x)] := hl
      refine lv_iload C.1 C.2.1 dX1_share_49 (lv_at hl 0 rfl) ?_
      refine xt_if_ne C (by omega) dX1_share_51 (tgt := 56) (by decide) (fun h51 => ?_) (fun h51 => ?_)
      · exfalso
        omega
      · refine xt_lconst C 0 dX1_share_54 (by decide +kernel) ?_
        exact xt_lret C hE () hW (rfl) dX1_share_55
    · exfalso
      exact h39 (by decide)
  · refine lv_iload_n C.1 C.2.1 dX1_share_4 rfl (lv_at hl 2 rfl) ?_
    refine lv_if_lt C.1 C.2.1 dX1_share_5 (tgt := 28) (by decide) (fun h5 => ?_) (fun h5 => ?_)
    · refine xt_iconst C 0 dX1_share_28 (by decide +kernel) ?_
      refine lv_goto C.1 C.2.1 dX1_share_29 (tgt := 47) (by decide) ?_
      refine lv_istore C.1 C.2.1 dX1_share_47 hl (by decide) rfl (fun ls hl => ?_)
      replace hl : lv_has ls 8 [(5, .int (nI 0)), (0, .ref (am 0)), (1, .int kd), (2, .int ro2), (3, .int co), (4, .int x)] := hl
      refine lv_iload C.1 C.2.1 dX1_share_49 (lv_at hl 0 rfl) ?_
      refine xt_if_ne C (by omega) dX1_share_51 (tgt := 56) (by decide) (fun h51 => ?_) (fun h51 => ?_)
      · exfalso
        omega
      · refine xt_lconst C 0 dX1_share_54 (by decide +kernel) ?_
        exact xt_lret C hE () hW (rfl) dX1_share_55
    · refine lv_iload_n C.1 C.2.1 dX1_share_8 rfl (lv_at hl 2 rfl) ?_
      refine lv_aload_n C.1 C.2.1 dX1_share_9 rfl (lv_at hl 0 rfl) ?_
      refine xt_get xt_inX1 C hW 0 rfl rfl 3 (by decide) rfl flX1_n rfl dX1_share_10 ?_
      refine lv_icmp_ge C.1 C.2.1 dX1_share_13 (tgt := 28) (by decide) (fun h13 => ?_) (fun h13 => ?_)
      · refine xt_iconst C 0 dX1_share_28 (by decide +kernel) ?_
        refine lv_goto C.1 C.2.1 dX1_share_29 (tgt := 47) (by decide) ?_
        refine lv_istore C.1 C.2.1 dX1_share_47 hl (by decide) rfl (fun ls hl => ?_)
        replace hl : lv_has ls 8 [(5, .int (nI 0)), (0, .ref (am 0)), (1, .int kd), (2, .int ro2), (3, .int co), (4, .int x)] := hl
        refine lv_iload C.1 C.2.1 dX1_share_49 (lv_at hl 0 rfl) ?_
        refine xt_if_ne C (by omega) dX1_share_51 (tgt := 56) (by decide) (fun h51 => ?_) (fun h51 => ?_)
        · exfalso
          omega
        · refine xt_lconst C 0 dX1_share_54 (by decide +kernel) ?_
          exact xt_lret C hE () hW (rfl) dX1_share_55
      · refine lv_aload_n C.1 C.2.1 dX1_share_16 rfl (lv_at hl 0 rfl) ?_
        refine lv_iload_n C.1 C.2.1 dX1_share_17 rfl (lv_at hl 3 rfl) ?_
        refine xt_ci hA hW (xt_runV C hW.1 hW.2.1 cwX1_X1_state (cm_state l D cI cL am S K n iz dz tp bt w ro wa ch al fr co (by omega)) rfl rfl rfl hl.1 (rest := []) rfl (Nat.le_of_ble_eq_true rfl) ⟨(Nat.le_of_ble_eq_true rfl), (Nat.le_of_ble_eq_true rfl)⟩ ⟨Nat.zero_le _, Nat.zero_le _⟩ dX1_share_18) (fun r18 u H locs hp18 hW => ?_)
        replace hW : xt_W D A ss.heap (xM am cI cL S K n iz dz tp bt w ro wa ch al fr) H locs := hW
        replace hp18 : (r18 = nI 1 ∧ ∃ z1, z1 < S ∧ co = nI z1) ∨ (r18 = nI 0 ∧ ¬ ∃ z1, z1 < S ∧ co = nI z1) := hp18
        rcases hp18 with ⟨-, hz⟩ | ⟨rfl, -⟩
        · exact absurd (⟨by rw [nI_0]; exact h1, xq_yes (by omega) h5 h13, hz⟩) hno
        · replace hl : lv_has ls 8 [(0, .ref (am 0)), (1, .int kd), (2, .int ro2), (3, .int co), (4, .int x)] := hl
          refine xt_if_eq C (by omega) dX1_share_21 (tgt := 28) (by decide) (fun h21 => ?_) (fun h21 => ?_)
          · refine xt_iconst C 0 dX1_share_28 (by decide +kernel) ?_
            refine lv_goto C.1 C.2.1 dX1_share_29 (tgt := 47) (by decide) ?_
            refine lv_istore C.1 C.2.1 dX1_share_47 hl (by decide) rfl (fun ls hl => ?_)
            replace hl : lv_has ls 8 [(5, .int (nI 0)), (0, .ref (am 0)), (1, .int kd), (2, .int ro2), (3, .int co), (4, .int x)] := hl
            refine lv_iload C.1 C.2.1 dX1_share_49 (lv_at hl 0 rfl) ?_
            refine xt_if_ne C (by omega) dX1_share_51 (tgt := 56) (by decide) (fun h51 => ?_) (fun h51 => ?_)
            · exfalso
              omega
            · refine xt_lconst C 0 dX1_share_54 (by decide +kernel) ?_
              exact xt_lret C hE () hW (rfl) dX1_share_55
          · exfalso
            omega
set_option maxHeartbeats 4000000 in
set_option maxRecDepth 100000 in
theorem cm_learnOne (l : Launch) (D : va_G) (cI cL : ClassId) (am : Nat → Nat) (S K n iz dz tp bt : Nat) (w ro wa ch al fr : Nat → Nat) (ka : Nat) (kb : Nat) (kc : Nat) (hV : mq_V S K n w ro) (hk : xq_kr S K ka kb kc) : xt_M l yX1_learnOne cX1_learnOne 11 none 3 D cI cL [.ref (am 0), .int (nI ka), .int (nI kb), .int (nI kc)] (xM am cI cL S K n iz dz tp bt w ro wa ch al fr) (xt_Qv D cI cL (xM am cI cL S K n iz dz tp bt w ro wa ch al fr) (fun (u : (Nat → Nat) × (Nat) × (Nat)) => u.2.1 = xq_top (mq_po S K n w ro ka kb kc) (mq_wh S K n w ro ka kb) ∧ u.2.2 = xq_bot (mq_po S K n w ro ka kb kc) (mq_wh S K n w ro ka kb)) (fun u => xM am cI cL S K n iz dz u.2.1 u.2.2 w ro u.1 ch al fr)) := by
  have hV2 := hV
  obtain ⟨hS0, hS3, hK0, hK4, hn6, hw, hsK⟩ := hV
  have hsy : ∀ p, p < n → ro p < 4 := fun p h => Nat.lt_of_lt_of_le (hsK p h) hK4
  obtain ⟨ha3, hbr, hck⟩ := xq_kcr hk
  have hcb := xq_clb (a := ka) hS3 hK4
  have hrb := xq_rwb (a := ka) hS0 hS3
  have hwl : ∀ i, i < 24 → w i < 2 ^ 31 := fun i h => Nat.lt_of_le_of_lt (hw i h) (by decide)
  refine xt_start (own := RX1) rfl (by decide) (Nat.le_of_ble_eq_true rfl) (fun pg ev ss mi args below meth cd A Q ls C hE hA hl hW => ?_)
  replace hl : lv_has ls 11 [(0, .ref (am 0)), (1, .int (nI ka)), (2, .int (nI kb)), (3, .int (nI kc))] := hl
  refine xt_lconst C 0 dX1_learnOne_0 (by decide +kernel) ?_
  refine lv_lstore C.1 C.2.1 dX1_learnOne_1 hl (by decide) rfl (fun ls hl => ?_)
  replace hl : lv_has ls 11 [(4, .long (lN 0)), (0, .ref (am 0)), (1, .int (nI ka)), (2, .int (nI kb)), (3, .int (nI kc))] := hl
  refine lv_iload_n C.1 C.2.1 dX1_learnOne_3 rfl (lv_at hl 2 rfl) ?_
  refine xt_if_ne C (by omega) dX1_learnOne_4 (tgt := 18) (by decide) (fun h4 => ?_) (fun h4 => ?_)
  · refine lv_aload_n C.1 C.2.1 dX1_learnOne_18 rfl (lv_at hl 1 rfl) ?_
    refine lv_iload_n C.1 C.2.1 dX1_learnOne_19 rfl (lv_at hl 2 rfl) ?_
    refine lv_iload_n C.1 C.2.1 dX1_learnOne_20 rfl (lv_at hl 3 rfl) ?_
    refine lv_iload_n C.1 C.2.1 dX1_learnOne_21 rfl (lv_at hl 4 rfl) ?_
    refine xt_cl hA hW (xt_runV C hW.1 hW.2.1 cwX1_X1_sum (cm_sum l D cI cL am S K n iz dz tp bt w ro wa ch al fr ka kb kc (hV2) (by omega) (by omega) (by omega)) rfl rfl rfl hl.1 (rest := []) rfl (Nat.le_of_ble_eq_true rfl) ⟨(Nat.le_of_ble_eq_true rfl), (Nat.le_of_ble_eq_true rfl)⟩ ⟨Nat.zero_le _, Nat.zero_le _⟩ dX1_learnOne_22) (fun r22 u H locs hp22 hW => ?_)
    obtain ⟨wa_22, rfl⟩ : ∃ z, z = u := ⟨_, rfl⟩
    replace hW : xt_W D A ss.heap (xM am cI cL S K n iz dz tp bt w ro wa_22 ch al fr) H locs := hW
    subst hp22
    skip
    refine lv_lstore C.1 C.2.1 dX1_learnOne_25 hl (by decide) rfl (fun ls hl => ?_)
    replace hl : lv_has ls 11 [(6, .long (lN (mq_un S n w ro ka kb kc))), (4, .long (lN 0)), (0, .ref (am 0)), (1, .int (nI ka)), (2, .int (nI kb)), (3, .int (nI kc))] := hl
    refine xt_lconst C 0 dX1_learnOne_27 (by decide +kernel) ?_
    refine lv_lstore C.1 C.2.1 dX1_learnOne_28 hl (by decide) rfl (fun ls hl => ?_)
    replace hl : lv_has ls 11 [(8, .long (lN 0)), (6, .long (lN (mq_un S n w ro ka kb kc))), (4, .long (lN 0)), (0, .ref (am 0)), (1, .int (nI ka)), (2, .int (nI kb)), (3, .int (nI kc))] := hl
    refine xt_iconst C 0 dX1_learnOne_30 (by decide +kernel) ?_
    refine lv_istore C.1 C.2.1 dX1_learnOne_31 hl (by decide) rfl (fun ls hl => ?_)
    replace hl : lv_has ls 11 [(10, .int (nI 0)), (8, .long (lN 0)), (6, .long (lN (mq_un S n w ro ka kb kc))), (4, .long (lN 0)), (0, .ref (am 0)), (1, .int (nI ka)), (2, .int (nI kb)), (3, .int (nI kc))] := hl
    have lp33 : ∀ (mq0 : Nat) (j : Nat) (wv : Nat → Nat), xq_cl S K ka - j = mq0 → (j ≤ xq_cl S K ka) → ∀ (ls : Array Slot) (H : Heap) (locs : List Loc), lv_has ls 11 [(10, .int (nI j)), (8, .long (lN (ms_sum (fun z1 => mq_un S n w ro ka kb z1) j))), (6, .long (lN (mq_un S n w ro ka kb kc))), (4, .long (lN (ms_sum (fun z1 => w (mq_sl ka kb z1)) j))), (0, .ref (am 0)), (1, .int (nI ka)), (2, .int (nI kb)), (3, .int (nI kc))] → xt_W D A ss.heap (xM am cI cL S K n iz dz tp bt w ro wv ch al fr) H locs → W pg l ev (xt_R 3) ss mi args below meth cd H locs 0 0 Q (F0 mi 33 ls []) := by
      intro mq0
      induction mq0 using Nat.strongRecOn with
      | _ mq0 ih33 =>
        intro j wv hq33 hj ls H locs hl hW
        refine lv_iload C.1 C.2.1 dX1_learnOne_33 (lv_at hl 0 rfl) ?_
        refine lv_aload_n C.1 C.2.1 dX1_learnOne_35 rfl (lv_at hl 4 rfl) ?_
        refine lv_iload_n C.1 C.2.1 dX1_learnOne_36 rfl (lv_at hl 5 rfl) ?_
        refine xt_ci hA hW (xt_runV C hW.1 hW.2.1 cwX1_X1_columns (cm_columns l D cI cL am S K n iz dz tp bt w ro wv ch al fr ka (by omega)) rfl rfl rfl hl.1 (rest := [.int (nI j)]) rfl (Nat.le_of_ble_eq_true rfl) ⟨(Nat.le_of_ble_eq_true rfl), (Nat.le_of_ble_eq_true rfl)⟩ ⟨Nat.zero_le _, Nat.zero_le _⟩ dX1_learnOne_37) (fun r37 u H locs hp37 hW => ?_)
        replace hW : xt_W D A ss.heap (xM am cI cL S K n iz dz tp bt w ro wv ch al fr) H locs := hW
        subst hp37
        refine xt_icmp_ge C (by omega) (by omega) dX1_learnOne_40 (tgt := 96) (by decide) (fun h40 => ?_) (fun h40 => ?_)
        · obtain rfl : j = xq_cl S K ka := by omega
          replace hl : lv_has ls 11 [(10, .int (nI (xq_cl S K ka))), (8, .long (lN (mq_ru S K n w ro ka kb))), (6, .long (lN (mq_un S n w ro ka kb kc))), (4, .long (lN (mq_rt S K w ka kb))), (0, .ref (am 0)), (1, .int (nI ka)), (2, .int (nI kb)), (3, .int (nI kc))] := hl
          refine lv_lload C.1 C.2.1 dX1_learnOne_96 (lv_at hl 1 rfl) ?_
          refine xt_lconst C 0 dX1_learnOne_98 (by decide +kernel) ?_
          refine xt_l_le C (Nat.lt_of_le_of_lt (mq_rub hS0 hS3 hK4 hn6 hw hsy _ (Nat.le_refl _)) (by decide)) (by decide) dX1_learnOne_99 dX1_learnOne_100 (tgt := 114) (by decide) (fun h99 => ?_) (fun h99 => ?_)
          · have hyz : mq_ru S K n w ro ka kb = 0 := by omega
            refine lv_aload_n C.1 C.2.1 dX1_learnOne_114 rfl (lv_at hl 4 rfl) ?_
            refine lv_lload C.1 C.2.1 dX1_learnOne_115 (lv_at hl 3 rfl) ?_
            refine xt_lconst C 0 dX1_learnOne_117 (by decide +kernel) ?_
            refine xt_l_ne C (Nat.lt_of_le_of_lt (mq_rtb hS3 hK4 hw ha3 hbr _ (Nat.le_refl _)) (by decide)) (by decide) dX1_learnOne_118 dX1_learnOne_119 (tgt := 126) (by decide) (fun h118 => ?_) (fun h118 => ?_)
            · have hn0 : 0 < mq_rt S K w ka kb := by omega
              refine lv_aload_n C.1 C.2.1 dX1_learnOne_126 rfl (lv_at hl 4 rfl) ?_
              refine xt_get xt_inX1 C hW 0 rfl rfl 2 (by decide) rfl flX1_weights rfl dX1_learnOne_127 ?_
              refine lv_aload_n C.1 C.2.1 dX1_learnOne_130 rfl (lv_at hl 4 rfl) ?_
              refine lv_iload_n C.1 C.2.1 dX1_learnOne_131 rfl (lv_at hl 5 rfl) ?_
              refine lv_iload_n C.1 C.2.1 dX1_learnOne_132 rfl (lv_at hl 6 rfl) ?_
              refine lv_iload_n C.1 C.2.1 dX1_learnOne_133 rfl (lv_at hl 7 rfl) ?_
              refine xt_ci hA hW (xt_runV C hW.1 hW.2.1 cwX1_X1_slot (cm_slot_y l D cI cL am S K n iz dz tp bt w ro wv ch al fr ka kb kc (by omega) (by omega) (hk)) rfl rfl rfl hl.1 (rest := [.ref (am 1), .ref (am 0)]) rfl (Nat.le_of_ble_eq_true rfl) ⟨(Nat.le_of_ble_eq_true rfl), (Nat.le_of_ble_eq_true rfl)⟩ ⟨Nat.zero_le _, Nat.zero_le _⟩ dX1_learnOne_134) (fun r134 u H locs hp134 hW => ?_)
              replace hW : xt_W D A ss.heap (xM am cI cL S K n iz dz tp bt w ro wv ch al fr) H locs := hW
              subst hp134
              have hslb := mq_slb hS3 hK4 hk
              refine xt_iald C hW 1 rfl (by decide) dX1_learnOne_137 (by omega) ?_
              refine xt_i2l C dX1_learnOne_138 (hwl _ hslb) ?_
              refine lv_lload C.1 C.2.1 dX1_learnOne_139 (lv_at hl 3 rfl) ?_
              refine xt_lconst C 0 dX1_learnOne_141 (by decide +kernel) ?_
              refine xt_l_ne C (Nat.lt_of_le_of_lt (mq_rtb hS3 hK4 hw ha3 hbr _ (Nat.le_refl _)) (by decide)) (by decide) dX1_learnOne_142 dX1_learnOne_143 (tgt := 150) (by decide) (fun h142 => ?_) (fun h142 => ?_)
              · refine lv_lload C.1 C.2.1 dX1_learnOne_150 (lv_at hl 3 rfl) ?_
                refine xt_cvd hA hW (xt_runV C hW.1 hW.2.1 cwX1_X1_fraction (cm_fraction l D cI cL am S K n iz dz tp bt w ro wv ch al fr (w (mq_sl ka kb kc)) (mq_rt S K w ka kb) (Nat.lt_of_le_of_lt (hw _ hslb) (by decide)) (Nat.lt_of_le_of_lt (mq_rtb hS3 hK4 hw ha3 hbr _ (Nat.le_refl _)) (by decide)) (hn0)) rfl rfl rfl hl.1 (rest := []) rfl (Nat.le_of_ble_eq_true rfl) ⟨(Nat.le_of_ble_eq_true rfl), (Nat.le_of_ble_eq_true rfl)⟩ ⟨Nat.zero_le _, Nat.zero_le _⟩ dX1_learnOne_152) (fun u H locs hp152 hW => ?_)
                replace hW : xt_W D A ss.heap (xM am cI cL S K n iz dz ((w (mq_sl ka kb kc)) / Nat.gcd (w (mq_sl ka kb kc)) (mq_rt S K w ka kb)) ((mq_rt S K w ka kb) / Nat.gcd (w (mq_sl ka kb kc)) (mq_rt S K w ka kb)) w ro wv ch al fr) H locs := hW
                exact xt_vret C hE (wv, (w (mq_sl ka kb kc)) / Nat.gcd (w (mq_sl ka kb kc)) (mq_rt S K w ka kb), (mq_rt S K w ka kb) / Nat.gcd (w (mq_sl ka kb kc)) (mq_rt S K w ka kb)) hW (mq_f1b hyz hn0) dX1_learnOne_155
              · exfalso
                omega
            · have hnz : mq_rt S K w ka kb = 0 := h118
              refine xt_lconst C 0 dX1_learnOne_122 (by decide +kernel) ?_
              refine lv_goto C.1 C.2.1 dX1_learnOne_123 (tgt := 139) (by decide) ?_
              refine lv_lload C.1 C.2.1 dX1_learnOne_139 (lv_at hl 3 rfl) ?_
              refine xt_lconst C 0 dX1_learnOne_141 (by decide +kernel) ?_
              refine xt_l_ne C (Nat.lt_of_le_of_lt (mq_rtb hS3 hK4 hw ha3 hbr _ (Nat.le_refl _)) (by decide)) (by decide) dX1_learnOne_142 dX1_learnOne_143 (tgt := 150) (by decide) (fun h142 => ?_) (fun h142 => ?_)
              · exfalso
                exact h142 hnz
              · refine xt_lconst C 1 dX1_learnOne_146 (by decide +kernel) ?_
                refine lv_goto C.1 C.2.1 dX1_learnOne_147 (tgt := 152) (by decide) ?_
                refine xt_cvd hA hW (xt_runV C hW.1 hW.2.1 cwX1_X1_fraction (cm_fraction l D cI cL am S K n iz dz tp bt w ro wv ch al fr 0 1 (by decide) (by decide) (by decide)) rfl rfl rfl hl.1 (rest := []) rfl (Nat.le_of_ble_eq_true rfl) ⟨(Nat.le_of_ble_eq_true rfl), (Nat.le_of_ble_eq_true rfl)⟩ ⟨Nat.zero_le _, Nat.zero_le _⟩ dX1_learnOne_152) (fun u H locs hp152 hW => ?_)
                replace hW : xt_W D A ss.heap (xM am cI cL S K n iz dz (0 / Nat.gcd 0 1) (1 / Nat.gcd 0 1) w ro wv ch al fr) H locs := hW
                exact xt_vret C hE (wv, 0 / Nat.gcd 0 1, 1 / Nat.gcd 0 1) hW (mq_f1c hyz hnz hck) dX1_learnOne_155
          · refine lv_aload_n C.1 C.2.1 dX1_learnOne_103 rfl (lv_at hl 4 rfl) ?_
            refine lv_lload C.1 C.2.1 dX1_learnOne_104 (lv_at hl 2 rfl) ?_
            refine lv_lload C.1 C.2.1 dX1_learnOne_106 (lv_at hl 1 rfl) ?_
            refine xt_cvd hA hW (xt_runV C hW.1 hW.2.1 cwX1_X1_fraction (cm_fraction l D cI cL am S K n iz dz tp bt w ro wv ch al fr (mq_un S n w ro ka kb kc) (mq_ru S K n w ro ka kb) (Nat.lt_of_le_of_lt (mq_unb hS0 hS3 hn6 hw hsy) (by decide)) (Nat.lt_of_le_of_lt (mq_rub hS0 hS3 hK4 hn6 hw hsy _ (Nat.le_refl _)) (by decide)) (h99)) rfl rfl rfl hl.1 (rest := []) rfl (Nat.le_of_ble_eq_true rfl) ⟨(Nat.le_of_ble_eq_true rfl), (Nat.le_of_ble_eq_true rfl)⟩ ⟨Nat.zero_le _, Nat.zero_le _⟩ dX1_learnOne_108) (fun u H locs hp108 hW => ?_)
            replace hW : xt_W D A ss.heap (xM am cI cL S K n iz dz ((mq_un S n w ro ka kb kc) / Nat.gcd (mq_un S n w ro ka kb kc) (mq_ru S K n w ro ka kb)) ((mq_ru S K n w ro ka kb) / Nat.gcd (mq_un S n w ro ka kb kc) (mq_ru S K n w ro ka kb)) w ro wv ch al fr) H locs := hW
            refine lv_goto C.1 C.2.1 dX1_learnOne_111 (tgt := 155) (by decide) ?_
            exact xt_vret C hE (wv, (mq_un S n w ro ka kb kc) / Nat.gcd (mq_un S n w ro ka kb kc) (mq_ru S K n w ro ka kb), (mq_ru S K n w ro ka kb) / Nat.gcd (mq_un S n w ro ka kb kc) (mq_ru S K n w ro ka kb)) hW (mq_f1a h99) dX1_learnOne_155
        · refine lv_lload C.1 C.2.1 dX1_learnOne_43 (lv_at hl 3 rfl) ?_
          refine lv_aload_n C.1 C.2.1 dX1_learnOne_45 rfl (lv_at hl 4 rfl) ?_
          refine xt_get xt_inX1 C hW 0 rfl rfl 2 (by decide) rfl flX1_weights rfl dX1_learnOne_46 ?_
          refine lv_aload_n C.1 C.2.1 dX1_learnOne_49 rfl (lv_at hl 4 rfl) ?_
          refine lv_iload_n C.1 C.2.1 dX1_learnOne_50 rfl (lv_at hl 5 rfl) ?_
          refine lv_iload_n C.1 C.2.1 dX1_learnOne_51 rfl (lv_at hl 6 rfl) ?_
          refine lv_iload C.1 C.2.1 dX1_learnOne_52 (lv_at hl 0 rfl) ?_
          refine xt_ci hA hW (xt_runV C hW.1 hW.2.1 cwX1_X1_slot (cm_slot_y l D cI cL am S K n iz dz tp bt w ro wv ch al fr ka kb j (by omega) (by omega) (xq_krc ha3 hbr (by omega))) rfl rfl rfl hl.1 (rest := [.ref (am 1), .long (lN (ms_sum (fun z1 => w (mq_sl ka kb z1)) j))]) rfl (Nat.le_of_ble_eq_true rfl) ⟨(Nat.le_of_ble_eq_true rfl), (Nat.le_of_ble_eq_true rfl)⟩ ⟨Nat.zero_le _, Nat.zero_le _⟩ dX1_learnOne_54) (fun r54 u H locs hp54 hW => ?_)
          replace hW : xt_W D A ss.heap (xM am cI cL S K n iz dz tp bt w ro wv ch al fr) H locs := hW
          subst hp54
          have hslb := mq_slb hS3 hK4 (xq_krc (S := S) (K := K) (c := j) ha3 hbr (by omega))
          refine xt_iald C hW 1 rfl (by decide) dX1_learnOne_57 (by omega) ?_
          refine xt_i2l C dX1_learnOne_58 (hwl _ hslb) ?_
          refine xt_ladd C dX1_learnOne_59 ?_
          refine lv_lstore C.1 C.2.1 dX1_learnOne_60 hl (by decide) rfl (fun ls hl => ?_)
          replace hl : lv_has ls 11 [(4, .long (lN ((ms_sum (fun z1 => w (mq_sl ka kb z1)) j) + (w (mq_sl ka kb j))))), (10, .int (nI j)), (8, .long (lN (ms_sum (fun z1 => mq_un S n w ro ka kb z1) j))), (6, .long (lN (mq_un S n w ro ka kb kc))), (0, .ref (am 0)), (1, .int (nI ka)), (2, .int (nI kb)), (3, .int (nI kc))] := hl
          refine W.eq (g2 := F0 mi 62 ls []) rfl ?_
          refine lv_lload C.1 C.2.1 dX1_learnOne_62 (lv_at hl 2 rfl) ?_
          refine lv_iload_n C.1 C.2.1 dX1_learnOne_64 rfl (lv_at hl 5 rfl) ?_
          refine xt_if_ne C (by omega) dX1_learnOne_65 (tgt := 79) (by decide) (fun h65 => ?_) (fun h65 => ?_)
          · refine lv_aload_n C.1 C.2.1 dX1_learnOne_79 rfl (lv_at hl 4 rfl) ?_
            refine lv_iload_n C.1 C.2.1 dX1_learnOne_80 rfl (lv_at hl 5 rfl) ?_
            refine lv_iload_n C.1 C.2.1 dX1_learnOne_81 rfl (lv_at hl 6 rfl) ?_
            refine lv_iload C.1 C.2.1 dX1_learnOne_82 (lv_at hl 1 rfl) ?_
            refine xt_cl hA hW (xt_runV C hW.1 hW.2.1 cwX1_X1_sum (cm_sum l D cI cL am S K n iz dz tp bt w ro wv ch al fr ka kb j (hV2) (by omega) (by omega) (by omega)) rfl rfl rfl hl.1 (rest := [.long (lN (ms_sum (fun z1 => mq_un S n w ro ka kb z1) j))]) rfl (Nat.le_of_ble_eq_true rfl) ⟨(Nat.le_of_ble_eq_true rfl), (Nat.le_of_ble_eq_true rfl)⟩ ⟨Nat.zero_le _, Nat.zero_le _⟩ dX1_learnOne_84) (fun r84 u H locs hp84 hW => ?_)
            obtain ⟨wa_84, rfl⟩ : ∃ z, z = u := ⟨_, rfl⟩
            replace hW : xt_W D A ss.heap (xM am cI cL S K n iz dz tp bt w ro wa_84 ch al fr) H locs := hW
            subst hp84
            skip
            refine xt_ladd C dX1_learnOne_87 ?_
            refine lv_lstore C.1 C.2.1 dX1_learnOne_88 hl (by decide) rfl (fun ls hl => ?_)
            replace hl : lv_has ls 11 [(8, .long (lN ((ms_sum (fun z1 => mq_un S n w ro ka kb z1) j) + (mq_un S n w ro ka kb j)))), (4, .long (lN ((ms_sum (fun z1 => w (mq_sl ka kb z1)) j) + (w (mq_sl ka kb j))))), (10, .int (nI j)), (6, .long (lN (mq_un S n w ro ka kb kc))), (0, .ref (am 0)), (1, .int (nI ka)), (2, .int (nI kb)), (3, .int (nI kc))] := hl
            refine lv_iinc (k := 2) C.1 C.2.1 dX1_learnOne_90 hl rfl xt_inc (by decide) rfl (fun ls hl => ?_)
            replace hl : lv_has ls 11 [(10, .int (nI (j + 1))), (8, .long (lN ((ms_sum (fun z1 => mq_un S n w ro ka kb z1) j) + (mq_un S n w ro ka kb j)))), (4, .long (lN ((ms_sum (fun z1 => w (mq_sl ka kb z1)) j) + (w (mq_sl ka kb j))))), (6, .long (lN (mq_un S n w ro ka kb kc))), (0, .ref (am 0)), (1, .int (nI ka)), (2, .int (nI kb)), (3, .int (nI kc))] := hl
            refine lv_goto C.1 C.2.1 dX1_learnOne_93 (tgt := 33) (by decide) ?_
            exact ih33 _ (by omega) (j + 1) wa_84 rfl (by omega) ls _ _ (lv_sub hl [0, 1, 3, 2, 4, 5, 6, 7] rfl) hW
          · refine lv_aload_n C.1 C.2.1 dX1_learnOne_68 rfl (lv_at hl 4 rfl) ?_
            refine xt_get xt_inX1 C hW 0 rfl rfl 3 (by decide) rfl flX1_n rfl dX1_learnOne_69 ?_
            refine xt_if_ne C (by omega) dX1_learnOne_72 (tgt := 79) (by decide) (fun h72 => ?_) (fun h72 => ?_)
            · refine lv_aload_n C.1 C.2.1 dX1_learnOne_79 rfl (lv_at hl 4 rfl) ?_
              refine lv_iload_n C.1 C.2.1 dX1_learnOne_80 rfl (lv_at hl 5 rfl) ?_
              refine lv_iload_n C.1 C.2.1 dX1_learnOne_81 rfl (lv_at hl 6 rfl) ?_
              refine lv_iload C.1 C.2.1 dX1_learnOne_82 (lv_at hl 1 rfl) ?_
              refine xt_cl hA hW (xt_runV C hW.1 hW.2.1 cwX1_X1_sum (cm_sum l D cI cL am S K n iz dz tp bt w ro wv ch al fr ka kb j (hV2) (by omega) (by omega) (by omega)) rfl rfl rfl hl.1 (rest := [.long (lN (ms_sum (fun z1 => mq_un S n w ro ka kb z1) j))]) rfl (Nat.le_of_ble_eq_true rfl) ⟨(Nat.le_of_ble_eq_true rfl), (Nat.le_of_ble_eq_true rfl)⟩ ⟨Nat.zero_le _, Nat.zero_le _⟩ dX1_learnOne_84) (fun r84 u H locs hp84 hW => ?_)
              obtain ⟨wa_84, rfl⟩ : ∃ z, z = u := ⟨_, rfl⟩
              replace hW : xt_W D A ss.heap (xM am cI cL S K n iz dz tp bt w ro wa_84 ch al fr) H locs := hW
              subst hp84
              skip
              refine xt_ladd C dX1_learnOne_87 ?_
              refine lv_lstore C.1 C.2.1 dX1_learnOne_88 hl (by decide) rfl (fun ls hl => ?_)
              replace hl : lv_has ls 11 [(8, .long (lN ((ms_sum (fun z1 => mq_un S n w ro ka kb z1) j) + (mq_un S n w ro ka kb j)))), (4, .long (lN ((ms_sum (fun z1 => w (mq_sl ka kb z1)) j) + (w (mq_sl ka kb j))))), (10, .int (nI j)), (6, .long (lN (mq_un S n w ro ka kb kc))), (0, .ref (am 0)), (1, .int (nI ka)), (2, .int (nI kb)), (3, .int (nI kc))] := hl
              refine lv_iinc (k := 2) C.1 C.2.1 dX1_learnOne_90 hl rfl xt_inc (by decide) rfl (fun ls hl => ?_)
              replace hl : lv_has ls 11 [(10, .int (nI (j + 1))), (8, .long (lN ((ms_sum (fun z1 => mq_un S n w ro ka kb z1) j) + (mq_un S n w ro ka kb j)))), (4, .long (lN ((ms_sum (fun z1 => w (mq_sl ka kb z1)) j) + (w (mq_sl ka kb j))))), (6, .long (lN (mq_un S n w ro ka kb kc))), (0, .ref (am 0)), (1, .int (nI ka)), (2, .int (nI kb)), (3, .int (nI kc))] := hl
              refine lv_goto C.1 C.2.1 dX1_learnOne_93 (tgt := 33) (by decide) ?_
              exact ih33 _ (by omega) (j + 1) wa_84 rfl (by omega) ls _ _ (lv_sub hl [0, 1, 3, 2, 4, 5, 6, 7] rfl) hW
            · refine xt_lconst C 0 dX1_learnOne_75 (by decide +kernel) ?_
              refine lv_goto C.1 C.2.1 dX1_learnOne_76 (tgt := 87) (by decide) ?_
              refine W.eq (g2 := F0 mi 87 ls [.long (lN (mq_un S n w ro ka kb j)), .long (lN (ms_sum (fun z1 => mq_un S n w ro ka kb z1) j))]) (by rw [mq_unz h72]) ?_
              refine xt_ladd C dX1_learnOne_87 ?_
              refine lv_lstore C.1 C.2.1 dX1_learnOne_88 hl (by decide) rfl (fun ls hl => ?_)
              replace hl : lv_has ls 11 [(8, .long (lN ((ms_sum (fun z1 => mq_un S n w ro ka kb z1) j) + (mq_un S n w ro ka kb j)))), (4, .long (lN ((ms_sum (fun z1 => w (mq_sl ka kb z1)) j) + (w (mq_sl ka kb j))))), (10, .int (nI j)), (6, .long (lN (mq_un S n w ro ka kb kc))), (0, .ref (am 0)), (1, .int (nI ka)), (2, .int (nI kb)), (3, .int (nI kc))] := hl
              refine lv_iinc (k := 2) C.1 C.2.1 dX1_learnOne_90 hl rfl xt_inc (by decide) rfl (fun ls hl => ?_)
              replace hl : lv_has ls 11 [(10, .int (nI (j + 1))), (8, .long (lN ((ms_sum (fun z1 => mq_un S n w ro ka kb z1) j) + (mq_un S n w ro ka kb j)))), (4, .long (lN ((ms_sum (fun z1 => w (mq_sl ka kb z1)) j) + (w (mq_sl ka kb j))))), (6, .long (lN (mq_un S n w ro ka kb kc))), (0, .ref (am 0)), (1, .int (nI ka)), (2, .int (nI kb)), (3, .int (nI kc))] := hl
              refine lv_goto C.1 C.2.1 dX1_learnOne_93 (tgt := 33) (by decide) ?_
              exact ih33 _ (by omega) (j + 1) wv rfl (by omega) ls _ _ (lv_sub hl [0, 1, 3, 2, 4, 5, 6, 7] rfl) hW
    exact lp33 _ 0 wa_22 rfl (Nat.zero_le _) ls _ _ (lv_sub hl [0, 1, 2, 3, 4, 5, 6, 7] rfl) hW
  · refine lv_aload_n C.1 C.2.1 dX1_learnOne_7 rfl (lv_at hl 1 rfl) ?_
    refine xt_get xt_inX1 C hW 0 rfl rfl 3 (by decide) rfl flX1_n rfl dX1_learnOne_8 ?_
    refine xt_if_ne C (by omega) dX1_learnOne_11 (tgt := 18) (by decide) (fun h11 => ?_) (fun h11 => ?_)
    · refine lv_aload_n C.1 C.2.1 dX1_learnOne_18 rfl (lv_at hl 1 rfl) ?_
      refine lv_iload_n C.1 C.2.1 dX1_learnOne_19 rfl (lv_at hl 2 rfl) ?_
      refine lv_iload_n C.1 C.2.1 dX1_learnOne_20 rfl (lv_at hl 3 rfl) ?_
      refine lv_iload_n C.1 C.2.1 dX1_learnOne_21 rfl (lv_at hl 4 rfl) ?_
      refine xt_cl hA hW (xt_runV C hW.1 hW.2.1 cwX1_X1_sum (cm_sum l D cI cL am S K n iz dz tp bt w ro wa ch al fr ka kb kc (hV2) (by omega) (by omega) (by omega)) rfl rfl rfl hl.1 (rest := []) rfl (Nat.le_of_ble_eq_true rfl) ⟨(Nat.le_of_ble_eq_true rfl), (Nat.le_of_ble_eq_true rfl)⟩ ⟨Nat.zero_le _, Nat.zero_le _⟩ dX1_learnOne_22) (fun r22 u H locs hp22 hW => ?_)
      obtain ⟨wa_22, rfl⟩ : ∃ z, z = u := ⟨_, rfl⟩
      replace hW : xt_W D A ss.heap (xM am cI cL S K n iz dz tp bt w ro wa_22 ch al fr) H locs := hW
      subst hp22
      skip
      refine lv_lstore C.1 C.2.1 dX1_learnOne_25 hl (by decide) rfl (fun ls hl => ?_)
      replace hl : lv_has ls 11 [(6, .long (lN (mq_un S n w ro ka kb kc))), (4, .long (lN 0)), (0, .ref (am 0)), (1, .int (nI ka)), (2, .int (nI kb)), (3, .int (nI kc))] := hl
      refine xt_lconst C 0 dX1_learnOne_27 (by decide +kernel) ?_
      refine lv_lstore C.1 C.2.1 dX1_learnOne_28 hl (by decide) rfl (fun ls hl => ?_)
      replace hl : lv_has ls 11 [(8, .long (lN 0)), (6, .long (lN (mq_un S n w ro ka kb kc))), (4, .long (lN 0)), (0, .ref (am 0)), (1, .int (nI ka)), (2, .int (nI kb)), (3, .int (nI kc))] := hl
      refine xt_iconst C 0 dX1_learnOne_30 (by decide +kernel) ?_
      refine lv_istore C.1 C.2.1 dX1_learnOne_31 hl (by decide) rfl (fun ls hl => ?_)
      replace hl : lv_has ls 11 [(10, .int (nI 0)), (8, .long (lN 0)), (6, .long (lN (mq_un S n w ro ka kb kc))), (4, .long (lN 0)), (0, .ref (am 0)), (1, .int (nI ka)), (2, .int (nI kb)), (3, .int (nI kc))] := hl
      have lp33 : ∀ (mq0 : Nat) (j : Nat) (wv : Nat → Nat), xq_cl S K ka - j = mq0 → (j ≤ xq_cl S K ka) → ∀ (ls : Array Slot) (H : Heap) (locs : List Loc), lv_has ls 11 [(10, .int (nI j)), (8, .long (lN (ms_sum (fun z1 => mq_un S n w ro ka kb z1) j))), (6, .long (lN (mq_un S n w ro ka kb kc))), (4, .long (lN (ms_sum (fun z1 => w (mq_sl ka kb z1)) j))), (0, .ref (am 0)), (1, .int (nI ka)), (2, .int (nI kb)), (3, .int (nI kc))] → xt_W D A ss.heap (xM am cI cL S K n iz dz tp bt w ro wv ch al fr) H locs → W pg l ev (xt_R 3) ss mi args below meth cd H locs 0 0 Q (F0 mi 33 ls []) := by
        intro mq0
        induction mq0 using Nat.strongRecOn with
        | _ mq0 ih33 =>
          intro j wv hq33 hj ls H locs hl hW
          refine lv_iload C.1 C.2.1 dX1_learnOne_33 (lv_at hl 0 rfl) ?_
          refine lv_aload_n C.1 C.2.1 dX1_learnOne_35 rfl (lv_at hl 4 rfl) ?_
          refine lv_iload_n C.1 C.2.1 dX1_learnOne_36 rfl (lv_at hl 5 rfl) ?_
          refine xt_ci hA hW (xt_runV C hW.1 hW.2.1 cwX1_X1_columns (cm_columns l D cI cL am S K n iz dz tp bt w ro wv ch al fr ka (by omega)) rfl rfl rfl hl.1 (rest := [.int (nI j)]) rfl (Nat.le_of_ble_eq_true rfl) ⟨(Nat.le_of_ble_eq_true rfl), (Nat.le_of_ble_eq_true rfl)⟩ ⟨Nat.zero_le _, Nat.zero_le _⟩ dX1_learnOne_37) (fun r37 u H locs hp37 hW => ?_)
          replace hW : xt_W D A ss.heap (xM am cI cL S K n iz dz tp bt w ro wv ch al fr) H locs := hW
          subst hp37
          refine xt_icmp_ge C (by omega) (by omega) dX1_learnOne_40 (tgt := 96) (by decide) (fun h40 => ?_) (fun h40 => ?_)
          · obtain rfl : j = xq_cl S K ka := by omega
            replace hl : lv_has ls 11 [(10, .int (nI (xq_cl S K ka))), (8, .long (lN (mq_ru S K n w ro ka kb))), (6, .long (lN (mq_un S n w ro ka kb kc))), (4, .long (lN (mq_rt S K w ka kb))), (0, .ref (am 0)), (1, .int (nI ka)), (2, .int (nI kb)), (3, .int (nI kc))] := hl
            refine lv_lload C.1 C.2.1 dX1_learnOne_96 (lv_at hl 1 rfl) ?_
            refine xt_lconst C 0 dX1_learnOne_98 (by decide +kernel) ?_
            refine xt_l_le C (Nat.lt_of_le_of_lt (mq_rub hS0 hS3 hK4 hn6 hw hsy _ (Nat.le_refl _)) (by decide)) (by decide) dX1_learnOne_99 dX1_learnOne_100 (tgt := 114) (by decide) (fun h99 => ?_) (fun h99 => ?_)
            · have hyz : mq_ru S K n w ro ka kb = 0 := by omega
              refine lv_aload_n C.1 C.2.1 dX1_learnOne_114 rfl (lv_at hl 4 rfl) ?_
              refine lv_lload C.1 C.2.1 dX1_learnOne_115 (lv_at hl 3 rfl) ?_
              refine xt_lconst C 0 dX1_learnOne_117 (by decide +kernel) ?_
              refine xt_l_ne C (Nat.lt_of_le_of_lt (mq_rtb hS3 hK4 hw ha3 hbr _ (Nat.le_refl _)) (by decide)) (by decide) dX1_learnOne_118 dX1_learnOne_119 (tgt := 126) (by decide) (fun h118 => ?_) (fun h118 => ?_)
              · have hn0 : 0 < mq_rt S K w ka kb := by omega
                refine lv_aload_n C.1 C.2.1 dX1_learnOne_126 rfl (lv_at hl 4 rfl) ?_
                refine xt_get xt_inX1 C hW 0 rfl rfl 2 (by decide) rfl flX1_weights rfl dX1_learnOne_127 ?_
                refine lv_aload_n C.1 C.2.1 dX1_learnOne_130 rfl (lv_at hl 4 rfl) ?_
                refine lv_iload_n C.1 C.2.1 dX1_learnOne_131 rfl (lv_at hl 5 rfl) ?_
                refine lv_iload_n C.1 C.2.1 dX1_learnOne_132 rfl (lv_at hl 6 rfl) ?_
                refine lv_iload_n C.1 C.2.1 dX1_learnOne_133 rfl (lv_at hl 7 rfl) ?_
                refine xt_ci hA hW (xt_runV C hW.1 hW.2.1 cwX1_X1_slot (cm_slot_y l D cI cL am S K n iz dz tp bt w ro wv ch al fr ka kb kc (by omega) (by omega) (hk)) rfl rfl rfl hl.1 (rest := [.ref (am 1), .ref (am 0)]) rfl (Nat.le_of_ble_eq_true rfl) ⟨(Nat.le_of_ble_eq_true rfl), (Nat.le_of_ble_eq_true rfl)⟩ ⟨Nat.zero_le _, Nat.zero_le _⟩ dX1_learnOne_134) (fun r134 u H locs hp134 hW => ?_)
                replace hW : xt_W D A ss.heap (xM am cI cL S K n iz dz tp bt w ro wv ch al fr) H locs := hW
                subst hp134
                have hslb := mq_slb hS3 hK4 hk
                refine xt_iald C hW 1 rfl (by decide) dX1_learnOne_137 (by omega) ?_
                refine xt_i2l C dX1_learnOne_138 (hwl _ hslb) ?_
                refine lv_lload C.1 C.2.1 dX1_learnOne_139 (lv_at hl 3 rfl) ?_
                refine xt_lconst C 0 dX1_learnOne_141 (by decide +kernel) ?_
                refine xt_l_ne C (Nat.lt_of_le_of_lt (mq_rtb hS3 hK4 hw ha3 hbr _ (Nat.le_refl _)) (by decide)) (by decide) dX1_learnOne_142 dX1_learnOne_143 (tgt := 150) (by decide) (fun h142 => ?_) (fun h142 => ?_)
                · refine lv_lload C.1 C.2.1 dX1_learnOne_150 (lv_at hl 3 rfl) ?_
                  refine xt_cvd hA hW (xt_runV C hW.1 hW.2.1 cwX1_X1_fraction (cm_fraction l D cI cL am S K n iz dz tp bt w ro wv ch al fr (w (mq_sl ka kb kc)) (mq_rt S K w ka kb) (Nat.lt_of_le_of_lt (hw _ hslb) (by decide)) (Nat.lt_of_le_of_lt (mq_rtb hS3 hK4 hw ha3 hbr _ (Nat.le_refl _)) (by decide)) (hn0)) rfl rfl rfl hl.1 (rest := []) rfl (Nat.le_of_ble_eq_true rfl) ⟨(Nat.le_of_ble_eq_true rfl), (Nat.le_of_ble_eq_true rfl)⟩ ⟨Nat.zero_le _, Nat.zero_le _⟩ dX1_learnOne_152) (fun u H locs hp152 hW => ?_)
                  replace hW : xt_W D A ss.heap (xM am cI cL S K n iz dz ((w (mq_sl ka kb kc)) / Nat.gcd (w (mq_sl ka kb kc)) (mq_rt S K w ka kb)) ((mq_rt S K w ka kb) / Nat.gcd (w (mq_sl ka kb kc)) (mq_rt S K w ka kb)) w ro wv ch al fr) H locs := hW
                  exact xt_vret C hE (wv, (w (mq_sl ka kb kc)) / Nat.gcd (w (mq_sl ka kb kc)) (mq_rt S K w ka kb), (mq_rt S K w ka kb) / Nat.gcd (w (mq_sl ka kb kc)) (mq_rt S K w ka kb)) hW (mq_f1b hyz hn0) dX1_learnOne_155
                · exfalso
                  omega
              · have hnz : mq_rt S K w ka kb = 0 := h118
                refine xt_lconst C 0 dX1_learnOne_122 (by decide +kernel) ?_
                refine lv_goto C.1 C.2.1 dX1_learnOne_123 (tgt := 139) (by decide) ?_
                refine lv_lload C.1 C.2.1 dX1_learnOne_139 (lv_at hl 3 rfl) ?_
                refine xt_lconst C 0 dX1_learnOne_141 (by decide +kernel) ?_
                refine xt_l_ne C (Nat.lt_of_le_of_lt (mq_rtb hS3 hK4 hw ha3 hbr _ (Nat.le_refl _)) (by decide)) (by decide) dX1_learnOne_142 dX1_learnOne_143 (tgt := 150) (by decide) (fun h142 => ?_) (fun h142 => ?_)
                · exfalso
                  exact h142 hnz
                · refine xt_lconst C 1 dX1_learnOne_146 (by decide +kernel) ?_
                  refine lv_goto C.1 C.2.1 dX1_learnOne_147 (tgt := 152) (by decide) ?_
                  refine xt_cvd hA hW (xt_runV C hW.1 hW.2.1 cwX1_X1_fraction (cm_fraction l D cI cL am S K n iz dz tp bt w ro wv ch al fr 0 1 (by decide) (by decide) (by decide)) rfl rfl rfl hl.1 (rest := []) rfl (Nat.le_of_ble_eq_true rfl) ⟨(Nat.le_of_ble_eq_true rfl), (Nat.le_of_ble_eq_true rfl)⟩ ⟨Nat.zero_le _, Nat.zero_le _⟩ dX1_learnOne_152) (fun u H locs hp152 hW => ?_)
                  replace hW : xt_W D A ss.heap (xM am cI cL S K n iz dz (0 / Nat.gcd 0 1) (1 / Nat.gcd 0 1) w ro wv ch al fr) H locs := hW
                  exact xt_vret C hE (wv, 0 / Nat.gcd 0 1, 1 / Nat.gcd 0 1) hW (mq_f1c hyz hnz hck) dX1_learnOne_155
            · refine lv_aload_n C.1 C.2.1 dX1_learnOne_103 rfl (lv_at hl 4 rfl) ?_
              refine lv_lload C.1 C.2.1 dX1_learnOne_104 (lv_at hl 2 rfl) ?_
              refine lv_lload C.1 C.2.1 dX1_learnOne_106 (lv_at hl 1 rfl) ?_
              refine xt_cvd hA hW (xt_runV C hW.1 hW.2.1 cwX1_X1_fraction (cm_fraction l D cI cL am S K n iz dz tp bt w ro wv ch al fr (mq_un S n w ro ka kb kc) (mq_ru S K n w ro ka kb) (Nat.lt_of_le_of_lt (mq_unb hS0 hS3 hn6 hw hsy) (by decide)) (Nat.lt_of_le_of_lt (mq_rub hS0 hS3 hK4 hn6 hw hsy _ (Nat.le_refl _)) (by decide)) (h99)) rfl rfl rfl hl.1 (rest := []) rfl (Nat.le_of_ble_eq_true rfl) ⟨(Nat.le_of_ble_eq_true rfl), (Nat.le_of_ble_eq_true rfl)⟩ ⟨Nat.zero_le _, Nat.zero_le _⟩ dX1_learnOne_108) (fun u H locs hp108 hW => ?_)
              replace hW : xt_W D A ss.heap (xM am cI cL S K n iz dz ((mq_un S n w ro ka kb kc) / Nat.gcd (mq_un S n w ro ka kb kc) (mq_ru S K n w ro ka kb)) ((mq_ru S K n w ro ka kb) / Nat.gcd (mq_un S n w ro ka kb kc) (mq_ru S K n w ro ka kb)) w ro wv ch al fr) H locs := hW
              refine lv_goto C.1 C.2.1 dX1_learnOne_111 (tgt := 155) (by decide) ?_
              exact xt_vret C hE (wv, (mq_un S n w ro ka kb kc) / Nat.gcd (mq_un S n w ro ka kb kc) (mq_ru S K n w ro ka kb), (mq_ru S K n w ro ka kb) / Nat.gcd (mq_un S n w ro ka kb kc) (mq_ru S K n w ro ka kb)) hW (mq_f1a h99) dX1_learnOne_155
          · refine lv_lload C.1 C.2.1 dX1_learnOne_43 (lv_at hl 3 rfl) ?_
            refine lv_aload_n C.1 C.2.1 dX1_learnOne_45 rfl (lv_at hl 4 rfl) ?_
            refine xt_get xt_inX1 C hW 0 rfl rfl 2 (by decide) rfl flX1_weights rfl dX1_learnOne_46 ?_
            refine lv_aload_n C.1 C.2.1 dX1_learnOne_49 rfl (lv_at hl 4 rfl) ?_
            refine lv_iload_n C.1 C.2.1 dX1_learnOne_50 rfl (lv_at hl 5 rfl) ?_
            refine lv_iload_n C.1 C.2.1 dX1_learnOne_51 rfl (lv_at hl 6 rfl) ?_
            refine lv_iload C.1 C.2.1 dX1_learnOne_52 (lv_at hl 0 rfl) ?_
            refine xt_ci hA hW (xt_runV C hW.1 hW.2.1 cwX1_X1_slot (cm_slot_y l D cI cL am S K n iz dz tp bt w ro wv ch al fr ka kb j (by omega) (by omega) (xq_krc ha3 hbr (by omega))) rfl rfl rfl hl.1 (rest := [.ref (am 1), .long (lN (ms_sum (fun z1 => w (mq_sl ka kb z1)) j))]) rfl (Nat.le_of_ble_eq_true rfl) ⟨(Nat.le_of_ble_eq_true rfl), (Nat.le_of_ble_eq_true rfl)⟩ ⟨Nat.zero_le _, Nat.zero_le _⟩ dX1_learnOne_54) (fun r54 u H locs hp54 hW => ?_)
            replace hW : xt_W D A ss.heap (xM am cI cL S K n iz dz tp bt w ro wv ch al fr) H locs := hW
            subst hp54
            have hslb := mq_slb hS3 hK4 (xq_krc (S := S) (K := K) (c := j) ha3 hbr (by omega))
            refine xt_iald C hW 1 rfl (by decide) dX1_learnOne_57 (by omega) ?_
            refine xt_i2l C dX1_learnOne_58 (hwl _ hslb) ?_
            refine xt_ladd C dX1_learnOne_59 ?_
            refine lv_lstore C.1 C.2.1 dX1_learnOne_60 hl (by decide) rfl (fun ls hl => ?_)
            replace hl : lv_has ls 11 [(4, .long (lN ((ms_sum (fun z1 => w (mq_sl ka kb z1)) j) + (w (mq_sl ka kb j))))), (10, .int (nI j)), (8, .long (lN (ms_sum (fun z1 => mq_un S n w ro ka kb z1) j))), (6, .long (lN (mq_un S n w ro ka kb kc))), (0, .ref (am 0)), (1, .int (nI ka)), (2, .int (nI kb)), (3, .int (nI kc))] := hl
            refine W.eq (g2 := F0 mi 62 ls []) rfl ?_
            refine lv_lload C.1 C.2.1 dX1_learnOne_62 (lv_at hl 2 rfl) ?_
            refine lv_iload_n C.1 C.2.1 dX1_learnOne_64 rfl (lv_at hl 5 rfl) ?_
            refine xt_if_ne C (by omega) dX1_learnOne_65 (tgt := 79) (by decide) (fun h65 => ?_) (fun h65 => ?_)
            · refine lv_aload_n C.1 C.2.1 dX1_learnOne_79 rfl (lv_at hl 4 rfl) ?_
              refine lv_iload_n C.1 C.2.1 dX1_learnOne_80 rfl (lv_at hl 5 rfl) ?_
              refine lv_iload_n C.1 C.2.1 dX1_learnOne_81 rfl (lv_at hl 6 rfl) ?_
              refine lv_iload C.1 C.2.1 dX1_learnOne_82 (lv_at hl 1 rfl) ?_
              refine xt_cl hA hW (xt_runV C hW.1 hW.2.1 cwX1_X1_sum (cm_sum l D cI cL am S K n iz dz tp bt w ro wv ch al fr ka kb j (hV2) (by omega) (by omega) (by omega)) rfl rfl rfl hl.1 (rest := [.long (lN (ms_sum (fun z1 => mq_un S n w ro ka kb z1) j))]) rfl (Nat.le_of_ble_eq_true rfl) ⟨(Nat.le_of_ble_eq_true rfl), (Nat.le_of_ble_eq_true rfl)⟩ ⟨Nat.zero_le _, Nat.zero_le _⟩ dX1_learnOne_84) (fun r84 u H locs hp84 hW => ?_)
              obtain ⟨wa_84, rfl⟩ : ∃ z, z = u := ⟨_, rfl⟩
              replace hW : xt_W D A ss.heap (xM am cI cL S K n iz dz tp bt w ro wa_84 ch al fr) H locs := hW
              subst hp84
              skip
              refine xt_ladd C dX1_learnOne_87 ?_
              refine lv_lstore C.1 C.2.1 dX1_learnOne_88 hl (by decide) rfl (fun ls hl => ?_)
              replace hl : lv_has ls 11 [(8, .long (lN ((ms_sum (fun z1 => mq_un S n w ro ka kb z1) j) + (mq_un S n w ro ka kb j)))), (4, .long (lN ((ms_sum (fun z1 => w (mq_sl ka kb z1)) j) + (w (mq_sl ka kb j))))), (10, .int (nI j)), (6, .long (lN (mq_un S n w ro ka kb kc))), (0, .ref (am 0)), (1, .int (nI ka)), (2, .int (nI kb)), (3, .int (nI kc))] := hl
              refine lv_iinc (k := 2) C.1 C.2.1 dX1_learnOne_90 hl rfl xt_inc (by decide) rfl (fun ls hl => ?_)
              replace hl : lv_has ls 11 [(10, .int (nI (j + 1))), (8, .long (lN ((ms_sum (fun z1 => mq_un S n w ro ka kb z1) j) + (mq_un S n w ro ka kb j)))), (4, .long (lN ((ms_sum (fun z1 => w (mq_sl ka kb z1)) j) + (w (mq_sl ka kb j))))), (6, .long (lN (mq_un S n w ro ka kb kc))), (0, .ref (am 0)), (1, .int (nI ka)), (2, .int (nI kb)), (3, .int (nI kc))] := hl
              refine lv_goto C.1 C.2.1 dX1_learnOne_93 (tgt := 33) (by decide) ?_
              exact ih33 _ (by omega) (j + 1) wa_84 rfl (by omega) ls _ _ (lv_sub hl [0, 1, 3, 2, 4, 5, 6, 7] rfl) hW
            · refine lv_aload_n C.1 C.2.1 dX1_learnOne_68 rfl (lv_at hl 4 rfl) ?_
              refine xt_get xt_inX1 C hW 0 rfl rfl 3 (by decide) rfl flX1_n rfl dX1_learnOne_69 ?_
              refine xt_if_ne C (by omega) dX1_learnOne_72 (tgt := 79) (by decide) (fun h72 => ?_) (fun h72 => ?_)
              · refine lv_aload_n C.1 C.2.1 dX1_learnOne_79 rfl (lv_at hl 4 rfl) ?_
                refine lv_iload_n C.1 C.2.1 dX1_learnOne_80 rfl (lv_at hl 5 rfl) ?_
                refine lv_iload_n C.1 C.2.1 dX1_learnOne_81 rfl (lv_at hl 6 rfl) ?_
                refine lv_iload C.1 C.2.1 dX1_learnOne_82 (lv_at hl 1 rfl) ?_
                refine xt_cl hA hW (xt_runV C hW.1 hW.2.1 cwX1_X1_sum (cm_sum l D cI cL am S K n iz dz tp bt w ro wv ch al fr ka kb j (hV2) (by omega) (by omega) (by omega)) rfl rfl rfl hl.1 (rest := [.long (lN (ms_sum (fun z1 => mq_un S n w ro ka kb z1) j))]) rfl (Nat.le_of_ble_eq_true rfl) ⟨(Nat.le_of_ble_eq_true rfl), (Nat.le_of_ble_eq_true rfl)⟩ ⟨Nat.zero_le _, Nat.zero_le _⟩ dX1_learnOne_84) (fun r84 u H locs hp84 hW => ?_)
                obtain ⟨wa_84, rfl⟩ : ∃ z, z = u := ⟨_, rfl⟩
                replace hW : xt_W D A ss.heap (xM am cI cL S K n iz dz tp bt w ro wa_84 ch al fr) H locs := hW
                subst hp84
                skip
                refine xt_ladd C dX1_learnOne_87 ?_
                refine lv_lstore C.1 C.2.1 dX1_learnOne_88 hl (by decide) rfl (fun ls hl => ?_)
                replace hl : lv_has ls 11 [(8, .long (lN ((ms_sum (fun z1 => mq_un S n w ro ka kb z1) j) + (mq_un S n w ro ka kb j)))), (4, .long (lN ((ms_sum (fun z1 => w (mq_sl ka kb z1)) j) + (w (mq_sl ka kb j))))), (10, .int (nI j)), (6, .long (lN (mq_un S n w ro ka kb kc))), (0, .ref (am 0)), (1, .int (nI ka)), (2, .int (nI kb)), (3, .int (nI kc))] := hl
                refine lv_iinc (k := 2) C.1 C.2.1 dX1_learnOne_90 hl rfl xt_inc (by decide) rfl (fun ls hl => ?_)
                replace hl : lv_has ls 11 [(10, .int (nI (j + 1))), (8, .long (lN ((ms_sum (fun z1 => mq_un S n w ro ka kb z1) j) + (mq_un S n w ro ka kb j)))), (4, .long (lN ((ms_sum (fun z1 => w (mq_sl ka kb z1)) j) + (w (mq_sl ka kb j))))), (6, .long (lN (mq_un S n w ro ka kb kc))), (0, .ref (am 0)), (1, .int (nI ka)), (2, .int (nI kb)), (3, .int (nI kc))] := hl
                refine lv_goto C.1 C.2.1 dX1_learnOne_93 (tgt := 33) (by decide) ?_
                exact ih33 _ (by omega) (j + 1) wa_84 rfl (by omega) ls _ _ (lv_sub hl [0, 1, 3, 2, 4, 5, 6, 7] rfl) hW
              · refine xt_lconst C 0 dX1_learnOne_75 (by decide +kernel) ?_
                refine lv_goto C.1 C.2.1 dX1_learnOne_76 (tgt := 87) (by decide) ?_
                refine W.eq (g2 := F0 mi 87 ls [.long (lN (mq_un S n w ro ka kb j)), .long (lN (ms_sum (fun z1 => mq_un S n w ro ka kb z1) j))]) (by rw [mq_unz h72]) ?_
                refine xt_ladd C dX1_learnOne_87 ?_
                refine lv_lstore C.1 C.2.1 dX1_learnOne_88 hl (by decide) rfl (fun ls hl => ?_)
                replace hl : lv_has ls 11 [(8, .long (lN ((ms_sum (fun z1 => mq_un S n w ro ka kb z1) j) + (mq_un S n w ro ka kb j)))), (4, .long (lN ((ms_sum (fun z1 => w (mq_sl ka kb z1)) j) + (w (mq_sl ka kb j))))), (10, .int (nI j)), (6, .long (lN (mq_un S n w ro ka kb kc))), (0, .ref (am 0)), (1, .int (nI ka)), (2, .int (nI kb)), (3, .int (nI kc))] := hl
                refine lv_iinc (k := 2) C.1 C.2.1 dX1_learnOne_90 hl rfl xt_inc (by decide) rfl (fun ls hl => ?_)
                replace hl : lv_has ls 11 [(10, .int (nI (j + 1))), (8, .long (lN ((ms_sum (fun z1 => mq_un S n w ro ka kb z1) j) + (mq_un S n w ro ka kb j)))), (4, .long (lN ((ms_sum (fun z1 => w (mq_sl ka kb z1)) j) + (w (mq_sl ka kb j))))), (6, .long (lN (mq_un S n w ro ka kb kc))), (0, .ref (am 0)), (1, .int (nI ka)), (2, .int (nI kb)), (3, .int (nI kc))] := hl
                refine lv_goto C.1 C.2.1 dX1_learnOne_93 (tgt := 33) (by decide) ?_
                exact ih33 _ (by omega) (j + 1) wv rfl (by omega) ls _ _ (lv_sub hl [0, 1, 3, 2, 4, 5, 6, 7] rfl) hW
      exact lp33 _ 0 wa_22 rfl (Nat.zero_le _) ls _ _ (lv_sub hl [0, 1, 2, 3, 4, 5, 6, 7] rfl) hW
    · refine xt_lconst C 0 dX1_learnOne_14 (by decide +kernel) ?_
      refine lv_goto C.1 C.2.1 dX1_learnOne_15 (tgt := 25) (by decide) ?_
      refine W.eq (g2 := F0 mi 25 ls [.long (lN (mq_un S n w ro ka kb kc))]) (by rw [mq_unz h11]) ?_
      refine lv_lstore C.1 C.2.1 dX1_learnOne_25 hl (by decide) rfl (fun ls hl => ?_)
      replace hl : lv_has ls 11 [(6, .long (lN (mq_un S n w ro ka kb kc))), (4, .long (lN 0)), (0, .ref (am 0)), (1, .int (nI ka)), (2, .int (nI kb)), (3, .int (nI kc))] := hl
      refine xt_lconst C 0 dX1_learnOne_27 (by decide +kernel) ?_
      refine lv_lstore C.1 C.2.1 dX1_learnOne_28 hl (by decide) rfl (fun ls hl => ?_)
      replace hl : lv_has ls 11 [(8, .long (lN 0)), (6, .long (lN (mq_un S n w ro ka kb kc))), (4, .long (lN 0)), (0, .ref (am 0)), (1, .int (nI ka)), (2, .int (nI kb)), (3, .int (nI kc))] := hl
      refine xt_iconst C 0 dX1_learnOne_30 (by decide +kernel) ?_
      refine lv_istore C.1 C.2.1 dX1_learnOne_31 hl (by decide) rfl (fun ls hl => ?_)
      replace hl : lv_has ls 11 [(10, .int (nI 0)), (8, .long (lN 0)), (6, .long (lN (mq_un S n w ro ka kb kc))), (4, .long (lN 0)), (0, .ref (am 0)), (1, .int (nI ka)), (2, .int (nI kb)), (3, .int (nI kc))] := hl
      have lp33 : ∀ (mq0 : Nat) (j : Nat) (wv : Nat → Nat), xq_cl S K ka - j = mq0 → (j ≤ xq_cl S K ka) → ∀ (ls : Array Slot) (H : Heap) (locs : List Loc), lv_has ls 11 [(10, .int (nI j)), (8, .long (lN (ms_sum (fun z1 => mq_un S n w ro ka kb z1) j))), (6, .long (lN (mq_un S n w ro ka kb kc))), (4, .long (lN (ms_sum (fun z1 => w (mq_sl ka kb z1)) j))), (0, .ref (am 0)), (1, .int (nI ka)), (2, .int (nI kb)), (3, .int (nI kc))] → xt_W D A ss.heap (xM am cI cL S K n iz dz tp bt w ro wv ch al fr) H locs → W pg l ev (xt_R 3) ss mi args below meth cd H locs 0 0 Q (F0 mi 33 ls []) := by
        intro mq0
        induction mq0 using Nat.strongRecOn with
        | _ mq0 ih33 =>
          intro j wv hq33 hj ls H locs hl hW
          refine lv_iload C.1 C.2.1 dX1_learnOne_33 (lv_at hl 0 rfl) ?_
          refine lv_aload_n C.1 C.2.1 dX1_learnOne_35 rfl (lv_at hl 4 rfl) ?_
          refine lv_iload_n C.1 C.2.1 dX1_learnOne_36 rfl (lv_at hl 5 rfl) ?_
          refine xt_ci hA hW (xt_runV C hW.1 hW.2.1 cwX1_X1_columns (cm_columns l D cI cL am S K n iz dz tp bt w ro wv ch al fr ka (by omega)) rfl rfl rfl hl.1 (rest := [.int (nI j)]) rfl (Nat.le_of_ble_eq_true rfl) ⟨(Nat.le_of_ble_eq_true rfl), (Nat.le_of_ble_eq_true rfl)⟩ ⟨Nat.zero_le _, Nat.zero_le _⟩ dX1_learnOne_37) (fun r37 u H locs hp37 hW => ?_)
          replace hW : xt_W D A ss.heap (xM am cI cL S K n iz dz tp bt w ro wv ch al fr) H locs := hW
          subst hp37
          refine xt_icmp_ge C (by omega) (by omega) dX1_learnOne_40 (tgt := 96) (by decide) (fun h40 => ?_) (fun h40 => ?_)
          · obtain rfl : j = xq_cl S K ka := by omega
            replace hl : lv_has ls 11 [(10, .int (nI (xq_cl S K ka))), (8, .long (lN (mq_ru S K n w ro ka kb))), (6, .long (lN (mq_un S n w ro ka kb kc))), (4, .long (lN (mq_rt S K w ka kb))), (0, .ref (am 0)), (1, .int (nI ka)), (2, .int (nI kb)), (3, .int (nI kc))] := hl
            refine lv_lload C.1 C.2.1 dX1_learnOne_96 (lv_at hl 1 rfl) ?_
            refine xt_lconst C 0 dX1_learnOne_98 (by decide +kernel) ?_
            refine xt_l_le C (Nat.lt_of_le_of_lt (mq_rub hS0 hS3 hK4 hn6 hw hsy _ (Nat.le_refl _)) (by decide)) (by decide) dX1_learnOne_99 dX1_learnOne_100 (tgt := 114) (by decide) (fun h99 => ?_) (fun h99 => ?_)
            · have hyz : mq_ru S K n w ro ka kb = 0 := by omega
              refine lv_aload_n C.1 C.2.1 dX1_learnOne_114 rfl (lv_at hl 4 rfl) ?_
              refine lv_lload C.1 C.2.1 dX1_learnOne_115 (lv_at hl 3 rfl) ?_
              refine xt_lconst C 0 dX1_learnOne_117 (by decide +kernel) ?_
              refine xt_l_ne C (Nat.lt_of_le_of_lt (mq_rtb hS3 hK4 hw ha3 hbr _ (Nat.le_refl _)) (by decide)) (by decide) dX1_learnOne_118 dX1_learnOne_119 (tgt := 126) (by decide) (fun h118 => ?_) (fun h118 => ?_)
              · have hn0 : 0 < mq_rt S K w ka kb := by omega
                refine lv_aload_n C.1 C.2.1 dX1_learnOne_126 rfl (lv_at hl 4 rfl) ?_
                refine xt_get xt_inX1 C hW 0 rfl rfl 2 (by decide) rfl flX1_weights rfl dX1_learnOne_127 ?_
                refine lv_aload_n C.1 C.2.1 dX1_learnOne_130 rfl (lv_at hl 4 rfl) ?_
                refine lv_iload_n C.1 C.2.1 dX1_learnOne_131 rfl (lv_at hl 5 rfl) ?_
                refine lv_iload_n C.1 C.2.1 dX1_learnOne_132 rfl (lv_at hl 6 rfl) ?_
                refine lv_iload_n C.1 C.2.1 dX1_learnOne_133 rfl (lv_at hl 7 rfl) ?_
                refine xt_ci hA hW (xt_runV C hW.1 hW.2.1 cwX1_X1_slot (cm_slot_y l D cI cL am S K n iz dz tp bt w ro wv ch al fr ka kb kc (by omega) (by omega) (hk)) rfl rfl rfl hl.1 (rest := [.ref (am 1), .ref (am 0)]) rfl (Nat.le_of_ble_eq_true rfl) ⟨(Nat.le_of_ble_eq_true rfl), (Nat.le_of_ble_eq_true rfl)⟩ ⟨Nat.zero_le _, Nat.zero_le _⟩ dX1_learnOne_134) (fun r134 u H locs hp134 hW => ?_)
                replace hW : xt_W D A ss.heap (xM am cI cL S K n iz dz tp bt w ro wv ch al fr) H locs := hW
                subst hp134
                have hslb := mq_slb hS3 hK4 hk
                refine xt_iald C hW 1 rfl (by decide) dX1_learnOne_137 (by omega) ?_
                refine xt_i2l C dX1_learnOne_138 (hwl _ hslb) ?_
                refine lv_lload C.1 C.2.1 dX1_learnOne_139 (lv_at hl 3 rfl) ?_
                refine xt_lconst C 0 dX1_learnOne_141 (by decide +kernel) ?_
                refine xt_l_ne C (Nat.lt_of_le_of_lt (mq_rtb hS3 hK4 hw ha3 hbr _ (Nat.le_refl _)) (by decide)) (by decide) dX1_learnOne_142 dX1_learnOne_143 (tgt := 150) (by decide) (fun h142 => ?_) (fun h142 => ?_)
                · refine lv_lload C.1 C.2.1 dX1_learnOne_150 (lv_at hl 3 rfl) ?_
                  refine xt_cvd hA hW (xt_runV C hW.1 hW.2.1 cwX1_X1_fraction (cm_fraction l D cI cL am S K n iz dz tp bt w ro wv ch al fr (w (mq_sl ka kb kc)) (mq_rt S K w ka kb) (Nat.lt_of_le_of_lt (hw _ hslb) (by decide)) (Nat.lt_of_le_of_lt (mq_rtb hS3 hK4 hw ha3 hbr _ (Nat.le_refl _)) (by decide)) (hn0)) rfl rfl rfl hl.1 (rest := []) rfl (Nat.le_of_ble_eq_true rfl) ⟨(Nat.le_of_ble_eq_true rfl), (Nat.le_of_ble_eq_true rfl)⟩ ⟨Nat.zero_le _, Nat.zero_le _⟩ dX1_learnOne_152) (fun u H locs hp152 hW => ?_)
                  replace hW : xt_W D A ss.heap (xM am cI cL S K n iz dz ((w (mq_sl ka kb kc)) / Nat.gcd (w (mq_sl ka kb kc)) (mq_rt S K w ka kb)) ((mq_rt S K w ka kb) / Nat.gcd (w (mq_sl ka kb kc)) (mq_rt S K w ka kb)) w ro wv ch al fr) H locs := hW
                  exact xt_vret C hE (wv, (w (mq_sl ka kb kc)) / Nat.gcd (w (mq_sl ka kb kc)) (mq_rt S K w ka kb), (mq_rt S K w ka kb) / Nat.gcd (w (mq_sl ka kb kc)) (mq_rt S K w ka kb)) hW (mq_f1b hyz hn0) dX1_learnOne_155
                · exfalso
                  omega
              · have hnz : mq_rt S K w ka kb = 0 := h118
                refine xt_lconst C 0 dX1_learnOne_122 (by decide +kernel) ?_
                refine lv_goto C.1 C.2.1 dX1_learnOne_123 (tgt := 139) (by decide) ?_
                refine lv_lload C.1 C.2.1 dX1_learnOne_139 (lv_at hl 3 rfl) ?_
                refine xt_lconst C 0 dX1_learnOne_141 (by decide +kernel) ?_
                refine xt_l_ne C (Nat.lt_of_le_of_lt (mq_rtb hS3 hK4 hw ha3 hbr _ (Nat.le_refl _)) (by decide)) (by decide) dX1_learnOne_142 dX1_learnOne_143 (tgt := 150) (by decide) (fun h142 => ?_) (fun h142 => ?_)
                · exfalso
                  exact h142 hnz
                · refine xt_lconst C 1 dX1_learnOne_146 (by decide +kernel) ?_
                  refine lv_goto C.1 C.2.1 dX1_learnOne_147 (tgt := 152) (by decide) ?_
                  refine xt_cvd hA hW (xt_runV C hW.1 hW.2.1 cwX1_X1_fraction (cm_fraction l D cI cL am S K n iz dz tp bt w ro wv ch al fr 0 1 (by decide) (by decide) (by decide)) rfl rfl rfl hl.1 (rest := []) rfl (Nat.le_of_ble_eq_true rfl) ⟨(Nat.le_of_ble_eq_true rfl), (Nat.le_of_ble_eq_true rfl)⟩ ⟨Nat.zero_le _, Nat.zero_le _⟩ dX1_learnOne_152) (fun u H locs hp152 hW => ?_)
                  replace hW : xt_W D A ss.heap (xM am cI cL S K n iz dz (0 / Nat.gcd 0 1) (1 / Nat.gcd 0 1) w ro wv ch al fr) H locs := hW
                  exact xt_vret C hE (wv, 0 / Nat.gcd 0 1, 1 / Nat.gcd 0 1) hW (mq_f1c hyz hnz hck) dX1_learnOne_155
            · refine lv_aload_n C.1 C.2.1 dX1_learnOne_103 rfl (lv_at hl 4 rfl) ?_
              refine lv_lload C.1 C.2.1 dX1_learnOne_104 (lv_at hl 2 rfl) ?_
              refine lv_lload C.1 C.2.1 dX1_learnOne_106 (lv_at hl 1 rfl) ?_
              refine xt_cvd hA hW (xt_runV C hW.1 hW.2.1 cwX1_X1_fraction (cm_fraction l D cI cL am S K n iz dz tp bt w ro wv ch al fr (mq_un S n w ro ka kb kc) (mq_ru S K n w ro ka kb) (Nat.lt_of_le_of_lt (mq_unb hS0 hS3 hn6 hw hsy) (by decide)) (Nat.lt_of_le_of_lt (mq_rub hS0 hS3 hK4 hn6 hw hsy _ (Nat.le_refl _)) (by decide)) (h99)) rfl rfl rfl hl.1 (rest := []) rfl (Nat.le_of_ble_eq_true rfl) ⟨(Nat.le_of_ble_eq_true rfl), (Nat.le_of_ble_eq_true rfl)⟩ ⟨Nat.zero_le _, Nat.zero_le _⟩ dX1_learnOne_108) (fun u H locs hp108 hW => ?_)
              replace hW : xt_W D A ss.heap (xM am cI cL S K n iz dz ((mq_un S n w ro ka kb kc) / Nat.gcd (mq_un S n w ro ka kb kc) (mq_ru S K n w ro ka kb)) ((mq_ru S K n w ro ka kb) / Nat.gcd (mq_un S n w ro ka kb kc) (mq_ru S K n w ro ka kb)) w ro wv ch al fr) H locs := hW
              refine lv_goto C.1 C.2.1 dX1_learnOne_111 (tgt := 155) (by decide) ?_
              exact xt_vret C hE (wv, (mq_un S n w ro ka kb kc) / Nat.gcd (mq_un S n w ro ka kb kc) (mq_ru S K n w ro ka kb), (mq_ru S K n w ro ka kb) / Nat.gcd (mq_un S n w ro ka kb kc) (mq_ru S K n w ro ka kb)) hW (mq_f1a h99) dX1_learnOne_155
          · refine lv_lload C.1 C.2.1 dX1_learnOne_43 (lv_at hl 3 rfl) ?_
            refine lv_aload_n C.1 C.2.1 dX1_learnOne_45 rfl (lv_at hl 4 rfl) ?_
            refine xt_get xt_inX1 C hW 0 rfl rfl 2 (by decide) rfl flX1_weights rfl dX1_learnOne_46 ?_
            refine lv_aload_n C.1 C.2.1 dX1_learnOne_49 rfl (lv_at hl 4 rfl) ?_
            refine lv_iload_n C.1 C.2.1 dX1_learnOne_50 rfl (lv_at hl 5 rfl) ?_
            refine lv_iload_n C.1 C.2.1 dX1_learnOne_51 rfl (lv_at hl 6 rfl) ?_
            refine lv_iload C.1 C.2.1 dX1_learnOne_52 (lv_at hl 0 rfl) ?_
            refine xt_ci hA hW (xt_runV C hW.1 hW.2.1 cwX1_X1_slot (cm_slot_y l D cI cL am S K n iz dz tp bt w ro wv ch al fr ka kb j (by omega) (by omega) (xq_krc ha3 hbr (by omega))) rfl rfl rfl hl.1 (rest := [.ref (am 1), .long (lN (ms_sum (fun z1 => w (mq_sl ka kb z1)) j))]) rfl (Nat.le_of_ble_eq_true rfl) ⟨(Nat.le_of_ble_eq_true rfl), (Nat.le_of_ble_eq_true rfl)⟩ ⟨Nat.zero_le _, Nat.zero_le _⟩ dX1_learnOne_54) (fun r54 u H locs hp54 hW => ?_)
            replace hW : xt_W D A ss.heap (xM am cI cL S K n iz dz tp bt w ro wv ch al fr) H locs := hW
            subst hp54
            have hslb := mq_slb hS3 hK4 (xq_krc (S := S) (K := K) (c := j) ha3 hbr (by omega))
            refine xt_iald C hW 1 rfl (by decide) dX1_learnOne_57 (by omega) ?_
            refine xt_i2l C dX1_learnOne_58 (hwl _ hslb) ?_
            refine xt_ladd C dX1_learnOne_59 ?_
            refine lv_lstore C.1 C.2.1 dX1_learnOne_60 hl (by decide) rfl (fun ls hl => ?_)
            replace hl : lv_has ls 11 [(4, .long (lN ((ms_sum (fun z1 => w (mq_sl ka kb z1)) j) + (w (mq_sl ka kb j))))), (10, .int (nI j)), (8, .long (lN (ms_sum (fun z1 => mq_un S n w ro ka kb z1) j))), (6, .long (lN (mq_un S n w ro ka kb kc))), (0, .ref (am 0)), (1, .int (nI ka)), (2, .int (nI kb)), (3, .int (nI kc))] := hl
            refine W.eq (g2 := F0 mi 62 ls []) rfl ?_
            refine lv_lload C.1 C.2.1 dX1_learnOne_62 (lv_at hl 2 rfl) ?_
            refine lv_iload_n C.1 C.2.1 dX1_learnOne_64 rfl (lv_at hl 5 rfl) ?_
            refine xt_if_ne C (by omega) dX1_learnOne_65 (tgt := 79) (by decide) (fun h65 => ?_) (fun h65 => ?_)
            · refine lv_aload_n C.1 C.2.1 dX1_learnOne_79 rfl (lv_at hl 4 rfl) ?_
              refine lv_iload_n C.1 C.2.1 dX1_learnOne_80 rfl (lv_at hl 5 rfl) ?_
              refine lv_iload_n C.1 C.2.1 dX1_learnOne_81 rfl (lv_at hl 6 rfl) ?_
              refine lv_iload C.1 C.2.1 dX1_learnOne_82 (lv_at hl 1 rfl) ?_
              refine xt_cl hA hW (xt_runV C hW.1 hW.2.1 cwX1_X1_sum (cm_sum l D cI cL am S K n iz dz tp bt w ro wv ch al fr ka kb j (hV2) (by omega) (by omega) (by omega)) rfl rfl rfl hl.1 (rest := [.long (lN (ms_sum (fun z1 => mq_un S n w ro ka kb z1) j))]) rfl (Nat.le_of_ble_eq_true rfl) ⟨(Nat.le_of_ble_eq_true rfl), (Nat.le_of_ble_eq_true rfl)⟩ ⟨Nat.zero_le _, Nat.zero_le _⟩ dX1_learnOne_84) (fun r84 u H locs hp84 hW => ?_)
              obtain ⟨wa_84, rfl⟩ : ∃ z, z = u := ⟨_, rfl⟩
              replace hW : xt_W D A ss.heap (xM am cI cL S K n iz dz tp bt w ro wa_84 ch al fr) H locs := hW
              subst hp84
              skip
              refine xt_ladd C dX1_learnOne_87 ?_
              refine lv_lstore C.1 C.2.1 dX1_learnOne_88 hl (by decide) rfl (fun ls hl => ?_)
              replace hl : lv_has ls 11 [(8, .long (lN ((ms_sum (fun z1 => mq_un S n w ro ka kb z1) j) + (mq_un S n w ro ka kb j)))), (4, .long (lN ((ms_sum (fun z1 => w (mq_sl ka kb z1)) j) + (w (mq_sl ka kb j))))), (10, .int (nI j)), (6, .long (lN (mq_un S n w ro ka kb kc))), (0, .ref (am 0)), (1, .int (nI ka)), (2, .int (nI kb)), (3, .int (nI kc))] := hl
              refine lv_iinc (k := 2) C.1 C.2.1 dX1_learnOne_90 hl rfl xt_inc (by decide) rfl (fun ls hl => ?_)
              replace hl : lv_has ls 11 [(10, .int (nI (j + 1))), (8, .long (lN ((ms_sum (fun z1 => mq_un S n w ro ka kb z1) j) + (mq_un S n w ro ka kb j)))), (4, .long (lN ((ms_sum (fun z1 => w (mq_sl ka kb z1)) j) + (w (mq_sl ka kb j))))), (6, .long (lN (mq_un S n w ro ka kb kc))), (0, .ref (am 0)), (1, .int (nI ka)), (2, .int (nI kb)), (3, .int (nI kc))] := hl
              refine lv_goto C.1 C.2.1 dX1_learnOne_93 (tgt := 33) (by decide) ?_
              exact ih33 _ (by omega) (j + 1) wa_84 rfl (by omega) ls _ _ (lv_sub hl [0, 1, 3, 2, 4, 5, 6, 7] rfl) hW
            · refine lv_aload_n C.1 C.2.1 dX1_learnOne_68 rfl (lv_at hl 4 rfl) ?_
              refine xt_get xt_inX1 C hW 0 rfl rfl 3 (by decide) rfl flX1_n rfl dX1_learnOne_69 ?_
              refine xt_if_ne C (by omega) dX1_learnOne_72 (tgt := 79) (by decide) (fun h72 => ?_) (fun h72 => ?_)
              · refine lv_aload_n C.1 C.2.1 dX1_learnOne_79 rfl (lv_at hl 4 rfl) ?_
                refine lv_iload_n C.1 C.2.1 dX1_learnOne_80 rfl (lv_at hl 5 rfl) ?_
                refine lv_iload_n C.1 C.2.1 dX1_learnOne_81 rfl (lv_at hl 6 rfl) ?_
                refine lv_iload C.1 C.2.1 dX1_learnOne_82 (lv_at hl 1 rfl) ?_
                refine xt_cl hA hW (xt_runV C hW.1 hW.2.1 cwX1_X1_sum (cm_sum l D cI cL am S K n iz dz tp bt w ro wv ch al fr ka kb j (hV2) (by omega) (by omega) (by omega)) rfl rfl rfl hl.1 (rest := [.long (lN (ms_sum (fun z1 => mq_un S n w ro ka kb z1) j))]) rfl (Nat.le_of_ble_eq_true rfl) ⟨(Nat.le_of_ble_eq_true rfl), (Nat.le_of_ble_eq_true rfl)⟩ ⟨Nat.zero_le _, Nat.zero_le _⟩ dX1_learnOne_84) (fun r84 u H locs hp84 hW => ?_)
                obtain ⟨wa_84, rfl⟩ : ∃ z, z = u := ⟨_, rfl⟩
                replace hW : xt_W D A ss.heap (xM am cI cL S K n iz dz tp bt w ro wa_84 ch al fr) H locs := hW
                subst hp84
                skip
                refine xt_ladd C dX1_learnOne_87 ?_
                refine lv_lstore C.1 C.2.1 dX1_learnOne_88 hl (by decide) rfl (fun ls hl => ?_)
                replace hl : lv_has ls 11 [(8, .long (lN ((ms_sum (fun z1 => mq_un S n w ro ka kb z1) j) + (mq_un S n w ro ka kb j)))), (4, .long (lN ((ms_sum (fun z1 => w (mq_sl ka kb z1)) j) + (w (mq_sl ka kb j))))), (10, .int (nI j)), (6, .long (lN (mq_un S n w ro ka kb kc))), (0, .ref (am 0)), (1, .int (nI ka)), (2, .int (nI kb)), (3, .int (nI kc))] := hl
                refine lv_iinc (k := 2) C.1 C.2.1 dX1_learnOne_90 hl rfl xt_inc (by decide) rfl (fun ls hl => ?_)
                replace hl : lv_has ls 11 [(10, .int (nI (j + 1))), (8, .long (lN ((ms_sum (fun z1 => mq_un S n w ro ka kb z1) j) + (mq_un S n w ro ka kb j)))), (4, .long (lN ((ms_sum (fun z1 => w (mq_sl ka kb z1)) j) + (w (mq_sl ka kb j))))), (6, .long (lN (mq_un S n w ro ka kb kc))), (0, .ref (am 0)), (1, .int (nI ka)), (2, .int (nI kb)), (3, .int (nI kc))] := hl
                refine lv_goto C.1 C.2.1 dX1_learnOne_93 (tgt := 33) (by decide) ?_
                exact ih33 _ (by omega) (j + 1) wa_84 rfl (by omega) ls _ _ (lv_sub hl [0, 1, 3, 2, 4, 5, 6, 7] rfl) hW
              · refine xt_lconst C 0 dX1_learnOne_75 (by decide +kernel) ?_
                refine lv_goto C.1 C.2.1 dX1_learnOne_76 (tgt := 87) (by decide) ?_
                refine W.eq (g2 := F0 mi 87 ls [.long (lN (mq_un S n w ro ka kb j)), .long (lN (ms_sum (fun z1 => mq_un S n w ro ka kb z1) j))]) (by rw [mq_unz h72]) ?_
                refine xt_ladd C dX1_learnOne_87 ?_
                refine lv_lstore C.1 C.2.1 dX1_learnOne_88 hl (by decide) rfl (fun ls hl => ?_)
                replace hl : lv_has ls 11 [(8, .long (lN ((ms_sum (fun z1 => mq_un S n w ro ka kb z1) j) + (mq_un S n w ro ka kb j)))), (4, .long (lN ((ms_sum (fun z1 => w (mq_sl ka kb z1)) j) + (w (mq_sl ka kb j))))), (10, .int (nI j)), (6, .long (lN (mq_un S n w ro ka kb kc))), (0, .ref (am 0)), (1, .int (nI ka)), (2, .int (nI kb)), (3, .int (nI kc))] := hl
                refine lv_iinc (k := 2) C.1 C.2.1 dX1_learnOne_90 hl rfl xt_inc (by decide) rfl (fun ls hl => ?_)
                replace hl : lv_has ls 11 [(10, .int (nI (j + 1))), (8, .long (lN ((ms_sum (fun z1 => mq_un S n w ro ka kb z1) j) + (mq_un S n w ro ka kb j)))), (4, .long (lN ((ms_sum (fun z1 => w (mq_sl ka kb z1)) j) + (w (mq_sl ka kb j))))), (6, .long (lN (mq_un S n w ro ka kb kc))), (0, .ref (am 0)), (1, .int (nI ka)), (2, .int (nI kb)), (3, .int (nI kc))] := hl
                refine lv_goto C.1 C.2.1 dX1_learnOne_93 (tgt := 33) (by decide) ?_
                exact ih33 _ (by omega) (j + 1) wv rfl (by omega) ls _ _ (lv_sub hl [0, 1, 3, 2, 4, 5, 6, 7] rfl) hW
      exact lp33 _ 0 wa rfl (Nat.zero_le _) ls _ _ (lv_sub hl [0, 1, 2, 3, 4, 5, 6, 7] rfl) hW
set_option maxHeartbeats 4000000 in
set_option maxRecDepth 100000 in
theorem cm_learned_y (l : Launch) (D : va_G) (cI cL : ClassId) (am : Nat → Nat) (S K n iz dz tp bt : Nat) (w ro wa ch al fr : Nat → Nat) (ka : Nat) (kb : Nat) (kc : Nat) (x : Int32) (hV : mq_V S K n w ro) (hk : xq_kr S K ka kb kc) : xt_M l yX1_learned cX1_learned 5 (some .long) 4 D cI cL [.ref (am 0), .int (nI ka), .int (nI kb), .int (nI kc), .int x] (xM am cI cL S K n iz dz tp bt w ro wa ch al fr) (xt_Ql D cI cL (xM am cI cL S K n iz dz tp bt w ro wa ch al fr) (fun (r : Int64) (u : (Nat → Nat) × (Nat) × (Nat)) => r = lN (xq_pt (mq_po S K n w ro ka kb kc) (mq_wh S K n w ro ka kb) x)) (fun u => xM am cI cL S K n iz dz u.2.1 u.2.2 w ro u.1 ch al fr)) := by
  have hV2 := hV
  obtain ⟨hS0, hS3, hK0, hK4, hn6, hw, hsK⟩ := hV
  have hsy : ∀ p, p < n → ro p < 4 := fun p h => Nat.lt_of_lt_of_le (hsK p h) hK4
  have hku := hk; unfold xq_kr at hku
  have hslb := mq_slb hS3 hK4 hk
  refine xt_start (own := RX1) rfl (by decide) (Nat.le_of_ble_eq_true rfl) (fun pg ev ss mi args below meth cd A Q ls C hE hA hl hW => ?_)
  replace hl : lv_has ls 5 [(0, .ref (am 0)), (1, .int (nI ka)), (2, .int (nI kb)), (3, .int (nI kc)), (4, .int x)] := hl
  refine lv_aload_n C.1 C.2.1 dX1_learned_0 rfl (lv_at hl 0 rfl) ?_
  refine lv_iload_n C.1 C.2.1 dX1_learned_1 rfl (lv_at hl 1 rfl) ?_
  refine lv_iload_n C.1 C.2.1 dX1_learned_2 rfl (lv_at hl 2 rfl) ?_
  refine lv_iload_n C.1 C.2.1 dX1_learned_3 rfl (lv_at hl 3 rfl) ?_
  refine xt_ci hA hW (xt_runV C hW.1 hW.2.1 cwX1_X1_slot (cm_slot_y l D cI cL am S K n iz dz tp bt w ro wa ch al fr ka kb kc (by omega) (by omega) (hk)) rfl rfl rfl hl.1 (rest := []) rfl (Nat.le_of_ble_eq_true rfl) ⟨(Nat.le_of_ble_eq_true rfl), (Nat.le_of_ble_eq_true rfl)⟩ ⟨Nat.zero_le _, Nat.zero_le _⟩ dX1_learned_4) (fun r4 u H locs hp4 hW => ?_)
  replace hW : xt_W D A ss.heap (xM am cI cL S K n iz dz tp bt w ro wa ch al fr) H locs := hW
  subst hp4
  refine xt_if_ge C (by omega) dX1_learned_7 (tgt := 12) (by decide) ?_
  refine lv_aload_n C.1 C.2.1 dX1_learned_12 rfl (lv_at hl 0 rfl) ?_
  refine lv_iload_n C.1 C.2.1 dX1_learned_13 rfl (lv_at hl 1 rfl) ?_
  refine lv_iload_n C.1 C.2.1 dX1_learned_14 rfl (lv_at hl 2 rfl) ?_
  refine lv_iload_n C.1 C.2.1 dX1_learned_15 rfl (lv_at hl 3 rfl) ?_
  refine xt_cvd hA hW (xt_runV C hW.1 hW.2.1 cwX1_X1_learnOne (cm_learnOne l D cI cL am S K n iz dz tp bt w ro wa ch al fr ka kb kc (hV2) (hk)) rfl rfl rfl hl.1 (rest := []) rfl (Nat.le_of_ble_eq_true rfl) ⟨(Nat.le_of_ble_eq_true rfl), (Nat.le_of_ble_eq_true rfl)⟩ ⟨Nat.zero_le _, Nat.zero_le _⟩ dX1_learned_16) (fun u H locs hp16 hW => ?_)
  obtain ⟨wa_16, tp_16, bt_16⟩ := u
  replace hW : xt_W D A ss.heap (xM am cI cL S K n iz dz tp_16 bt_16 w ro wa_16 ch al fr) H locs := hW
  replace hp16 : tp_16 = xq_top (mq_po S K n w ro ka kb kc) (mq_wh S K n w ro ka kb) ∧ bt_16 = xq_bot (mq_po S K n w ro ka kb kc) (mq_wh S K n w ro ka kb) := hp16
  obtain ⟨rfl, rfl⟩ := hp16
  replace hW : xt_W D A ss.heap (xM am cI cL S K n iz dz (xq_top (mq_po S K n w ro ka kb kc) (mq_wh S K n w ro ka kb)) (xq_bot (mq_po S K n w ro ka kb kc) (mq_wh S K n w ro ka kb)) w ro wa_16 ch al fr) H locs := hW
  refine lv_aload_n C.1 C.2.1 dX1_learned_19 rfl (lv_at hl 0 rfl) ?_
  refine W.eq (g2 := F0 mi 20 ls [.ref (am 0)]) rfl ?_
  refine lv_iload C.1 C.2.1 dX1_learned_20 (lv_at hl 4 rfl) ?_
  refine xt_cl hA hW (xt_runV C hW.1 hW.2.1 cwX1_X1_part (cm_part l D cI cL am S K n iz dz (xq_top (mq_po S K n w ro ka kb kc) (mq_wh S K n w ro ka kb)) (xq_bot (mq_po S K n w ro ka kb kc) (mq_wh S K n w ro ka kb)) w ro wa_16 ch al fr x) rfl rfl rfl hl.1 (rest := []) rfl (Nat.le_of_ble_eq_true rfl) ⟨(Nat.le_of_ble_eq_true rfl), (Nat.le_of_ble_eq_true rfl)⟩ ⟨Nat.zero_le _, Nat.zero_le _⟩ dX1_learned_22) (fun r22 u H locs hp22 hW => ?_)
  replace hW : xt_W D A ss.heap (xM am cI cL S K n iz dz (xq_top (mq_po S K n w ro ka kb kc) (mq_wh S K n w ro ka kb)) (xq_bot (mq_po S K n w ro ka kb kc) (mq_wh S K n w ro ka kb)) w ro wa_16 ch al fr) H locs := hW
  subst hp22
  exact xt_lret C hE (wa_16, xq_top (mq_po S K n w ro ka kb kc) (mq_wh S K n w ro ka kb), xq_bot (mq_po S K n w ro ka kb kc) (mq_wh S K n w ro ka kb)) hW (rfl) dX1_learned_25
set_option maxHeartbeats 4000000 in
set_option maxRecDepth 100000 in
theorem cm_learned_n (l : Launch) (D : va_G) (cI cL : ClassId) (am : Nat → Nat) (S K n iz dz tp bt : Nat) (w ro wa ch al fr : Nat → Nat) (kd : Int32) (ro2 : Int32) (co : Int32) (x : Int32) (hV : mq_V S K n w ro) (hno : ¬ ∃ a b c, xt_ok S K kd ro2 co a b c) : xt_M l yX1_learned cX1_learned 5 (some .long) 4 D cI cL [.ref (am 0), .int kd, .int ro2, .int co, .int x] (xM am cI cL S K n iz dz tp bt w ro wa ch al fr) (xt_Ql D cI cL (xM am cI cL S K n iz dz tp bt w ro wa ch al fr) (fun (r : Int64) (u : Unit) => r = lN 0) (fun u => xM am cI cL S K n iz dz tp bt w ro wa ch al fr)) := by
  obtain ⟨hS0, hS3, hK0, hK4, hn6, hw, hsK⟩ := hV
  have hsy : ∀ p, p < n → ro p < 4 := fun p h => Nat.lt_of_lt_of_le (hsK p h) hK4
  refine xt_start (own := RX1) rfl (by decide) (Nat.le_of_ble_eq_true rfl) (fun pg ev ss mi args below meth cd A Q ls C hE hA hl hW => ?_)
  replace hl : lv_has ls 5 [(0, .ref (am 0)), (1, .int kd), (2, .int ro2), (3, .int co), (4, .int x)] := hl
  refine lv_aload_n C.1 C.2.1 dX1_learned_0 rfl (lv_at hl 0 rfl) ?_
  refine lv_iload_n C.1 C.2.1 dX1_learned_1 rfl (lv_at hl 1 rfl) ?_
  refine lv_iload_n C.1 C.2.1 dX1_learned_2 rfl (lv_at hl 2 rfl) ?_
  refine lv_iload_n C.1 C.2.1 dX1_learned_3 rfl (lv_at hl 3 rfl) ?_
  refine xt_ci hA hW (xt_runV C hW.1 hW.2.1 cwX1_X1_slot (cm_slot_n l D cI cL am S K n iz dz tp bt w ro wa ch al fr kd ro2 co (by omega) (by omega) (hno)) rfl rfl rfl hl.1 (rest := []) rfl (Nat.le_of_ble_eq_true rfl) ⟨(Nat.le_of_ble_eq_true rfl), (Nat.le_of_ble_eq_true rfl)⟩ ⟨Nat.zero_le _, Nat.zero_le _⟩ dX1_learned_4) (fun r4 u H locs hp4 hW => ?_)
  replace hW : xt_W D A ss.heap (xM am cI cL S K n iz dz tp bt w ro wa ch al fr) H locs := hW
  subst hp4
  refine lv_if_ge C.1 C.2.1 dX1_learned_7 (tgt := 12) (by decide) (fun h7 => ?_) (fun h7 => ?_)
  · exfalso
    exact absurd h7 (by decide)
  · refine xt_lconst C 0 dX1_learned_10 (by decide +kernel) ?_
    exact xt_lret C hE () hW (rfl) dX1_learned_11
