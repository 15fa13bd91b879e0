theorem mq_spell {S k f e q : Nat} {wa wv : Nat → Nat} (hq : 0 < q) (hf : f < q) (h1 : ∀ j, q ≤ j → j < e → wv j = k / S ^ (e - 1 - j) % S) (h2 : ∀ j, ¬ (q ≤ j ∧ j < e) → wv j = wa j) (hqe : q ≤ e) :
    (∀ j, q - 1 ≤ j → j < e → va_up wv (q - 1) (k / S ^ (e - q) % S) j = k / S ^ (e - 1 - j) % S) ∧ (∀ j, ¬ (q - 1 ≤ j ∧ j < e) → va_up wv (q - 1) (k / S ^ (e - q) % S) j = wa j) := by
  refine ⟨fun j h3 h4 => ?_, fun j h3 => ?_⟩
  · by_cases c : j = q - 1
    · subst c
      rw [xq_up, show e - 1 - (q - 1) = e - q by omega]
    · rw [xq_un c]
      exact h1 j (by omega) h4
  · rw [xq_un (by omega)]
    exact h2 j (by omega)
theorem mq_div {S k e q : Nat} (hq : 0 < q) (hqe : q ≤ e) : k / S ^ (e - q) / S = k / S ^ (e - (q - 1)) := by
  rw [Nat.div_div_eq_div_mul, ← Nat.pow_succ, show (e - q).succ = e - (q - 1) by omega]
theorem mq_prs {w ro wa : Nat → Nat} {f c : Nat} (h : f + c = 0) : ms_pr (me w ro) wa f c * w (wa 0) * w (12 + 4 * wa (f + c) + ro (f + c)) = ms_pr (me w ro) wa f (c + 1) := by
  rw [ms_pr_succ, Nat.mul_assoc]
  unfold me
  rw [if_pos h, h]
theorem mq_prn {w ro wa : Nat → Nat} {f c : Nat} (h : f + c ≠ 0) : ms_pr (me w ro) wa f c * w (3 + 3 * wa (f + c - 1) + wa (f + c)) * w (12 + 4 * wa (f + c) + ro (f + c)) = ms_pr (me w ro) wa f (c + 1) := by
  rw [ms_pr_succ, Nat.mul_assoc]
  unfold me
  rw [if_neg h]
theorem mq_af {w ro wa wv : Nat → Nat} {S p k q : Nat} (h : ∀ j, 0 ≤ j ∧ j < p → wv j = k / S ^ (p - 1 - j) % S) : ms_pr (me w ro) (va_up wv p q) 0 (p + 1 - 0) = ms_af (me w ro) S p k q := by
  unfold ms_af
  rw [Nat.sub_zero]
  refine ms_pr_congr (fun j h1 _ => ?_)
  by_cases c : j = p
  · rw [c, xq_up]
    simp [ms_wa]
  · have h2 : j < p := by omega
    rw [xq_un c, h j ⟨Nat.zero_le _, h2⟩]
    simp only [ms_wa]
    rw [if_pos h2]
    rfl
theorem mq_bg {w ro wa wv : Nat → Nat} {S n p k q : Nat} (hp : p < n) (h : ∀ j, p + 1 ≤ j ∧ j < n → wv j = k / S ^ (n - 1 - j) % S) : ms_pr (me w ro) (va_up wv p q) (p + 1) (n - (p + 1)) = ms_bg (me w ro) S n p q k := by
  unfold ms_bg
  rw [show n - (p + 1) = n - 1 - p by omega]
  refine ms_pr_congr (fun j h1 h2 => ?_)
  by_cases c : j = p
  · rw [c, xq_up]
    simp [ms_wb]
  · rw [xq_un c, h j ⟨by omega, by omega⟩]
    simp only [ms_wb]
    rw [if_neg (by omega)]
theorem mq_e81 {w ro : Nat → Nat} {S n : Nat} (hw : ∀ i, i < 24 → w i ≤ 9) (hS3 : S ≤ 3) (hsy : ∀ p, p < n → ro p < 4) : ∀ p s t, p < n → s < S → t < S → me w ro p s t ≤ 81 :=
  fun p s t hp hs ht => me_le hw (by omega) (by omega) (hsy p hp)
theorem mq_wtb {w ro : Nat → Nat} {S n a : Nat} (hw : ∀ i, i < 24 → w i ≤ 9) (hS3 : S ≤ 3) (hS0 : 0 < S) (hn6 : n ≤ 6) (hsy : ∀ p, p < n → ro p < 4) : ms_wt (me w ro) S n a < 2 ^ 63 :=
  Nat.lt_of_le_of_lt (ms_wt_b hS0 hn6 (mq_e81 hw hS3 hsy)) (by decide)
theorem mq_totb {S n : Nat} {w ro : Nat → Nat} (hS0 : 0 < S) (hS3 : S ≤ 3) (hn6 : n ≤ 6) (hw : ∀ i, i < 24 → w i ≤ 9) (hsy : ∀ p, p < n → ro p < 4) : ms_sum (fun z1 => ms_wt (me w ro) S n z1) (S ^ n) < 2 ^ 63 :=
  Nat.lt_of_le_of_lt (ms_tot_le hS0 hS3 hn6 (mq_e81 hw hS3 hsy)) (by decide)
set_option maxHeartbeats 4000000 in
set_option maxRecDepth 100000 in
theorem cm_power (l : Launch) (D : va_G) (cI cL : ClassId) (am : Nat → Nat) (S K n iz dz tp bt : Nat) (w ro wa ch al fr : Nat → Nat) (p : Nat) (hp6 : p ≤ 6) : xt_M l yX1_power cX1_power 4 (some .int) 0 D cI cL [.ref (am 0), .int (nI p)] (xM am cI cL S K n iz dz tp bt w ro wa ch al fr) (xt_Qi D cI cL (xM am cI cL S K n iz dz tp bt w ro wa ch al fr) (fun (r : Int32) (u : Unit) => r = nI (S ^ p)) (fun u => xM am cI cL S K n iz dz tp bt w ro wa ch al fr)) := by
  refine xt_start (own := RX1) rfl (by decide) (Nat.le_of_ble_eq_true rfl) (fun pg ev ss mi args below meth cd A Q ls C hE hA hl hW => ?_)
  replace hl : lv_has ls 4 [(0, .ref (am 0)), (1, .int (nI p))] := hl
  refine xt_iconst C 1 dX1_power_0 (by decide +kernel) ?_
  refine lv_istore_n C.1 C.2.1 dX1_power_1 rfl hl (by decide) rfl (fun ls hl => ?_)
  replace hl : lv_has ls 4 [(2, .int (nI 1)), (0, .ref (am 0)), (1, .int (nI p))] := hl
  refine xt_iconst C 0 dX1_power_2 (by decide +kernel) ?_
  refine lv_istore_n C.1 C.2.1 dX1_power_3 rfl hl (by decide) rfl (fun ls hl => ?_)
  replace hl : lv_has ls 4 [(3, .int (nI 0)), (2, .int (nI 1)), (0, .ref (am 0)), (1, .int (nI p))] := hl
  have lp4 : ∀ (mq0 : Nat) (i : Nat), p - i = mq0 → (i ≤ p) → ∀ (ls : Array Slot) (H : Heap) (locs : List Loc), lv_has ls 4 [(3, .int (nI i)), (2, .int (nI (S ^ i))), (0, .ref (am 0)), (1, .int (nI p))] → xt_W D A ss.heap (xM am cI cL S K n iz dz tp bt w ro wa ch al fr) H locs → W pg l ev (xt_R 0) ss mi args below meth cd H locs 0 0 Q (F0 mi 4 ls []) := by
    intro mq0
    induction mq0 using Nat.strongRecOn with
    | _ mq0 ih4 =>
      intro i hq4 hi ls H locs hl hW
      refine lv_iload_n C.1 C.2.1 dX1_power_4 rfl (lv_at hl 0 rfl) ?_
      refine lv_iload_n C.1 C.2.1 dX1_power_5 rfl (lv_at hl 3 rfl) ?_
      refine xt_icmp_ge C (by omega) (by omega) dX1_power_6 (tgt := 22) (by decide) (fun h6 => ?_) (fun h6 => ?_)
      · refine lv_iload_n C.1 C.2.1 dX1_power_22 rfl (lv_at hl 1 rfl) ?_
        exact xt_iret C hE () hW (by show nI (S ^ i) = nI _; rw [show i = p by omega]) dX1_power_23
      · refine lv_iload_n C.1 C.2.1 dX1_power_9 rfl (lv_at hl 1 rfl) ?_
        refine lv_aload_n C.1 C.2.1 dX1_power_10 rfl (lv_at hl 2 rfl) ?_
        refine xt_get xt_inX1 C hW 0 rfl rfl 0 (by decide) rfl flX1_states rfl dX1_power_11 ?_
        refine xt_imul C dX1_power_14 ?_
        refine lv_istore_n C.1 C.2.1 dX1_power_15 rfl hl (by decide) rfl (fun ls hl => ?_)
        replace hl : lv_has ls 4 [(2, .int (nI ((S ^ i) * S))), (3, .int (nI i)), (0, .ref (am 0)), (1, .int (nI p))] := hl
        refine lv_iinc (k := 1) C.1 C.2.1 dX1_power_16 hl rfl xt_inc (by decide) rfl (fun ls hl => ?_)
        replace hl : lv_has ls 4 [(3, .int (nI (i + 1))), (2, .int (nI ((S ^ i) * S))), (0, .ref (am 0)), (1, .int (nI p))] := hl
        refine lv_goto C.1 C.2.1 dX1_power_19 (tgt := 4) (by decide) ?_
        exact ih4 _ (by omega) (i + 1) rfl (by omega) ls _ _ (lv_sub hl [0, 1, 2, 3] rfl) hW
  exact lp4 _ 0 rfl (Nat.zero_le _) ls _ _ (lv_sub hl [0, 1, 2, 3] rfl) hW
set_option maxHeartbeats 4000000 in
set_option maxRecDepth 100000 in
theorem cm_spell (l : Launch) (D : va_G) (cI cL : ClassId) (am : Nat → Nat) (S K n iz dz tp bt : Nat) (w ro wa ch al fr : Nat → Nat) (k : Nat) (f : Nat) (e : Nat) (hk30 : k < 2 ^ 30) (hf6 : f ≤ 6) (he6 : e ≤ 6) (hS0 : 0 < S) (hS3 : S ≤ 3) : xt_M l yX1_spell cX1_spell 6 none 0 D cI cL [.ref (am 0), .int (nI k), .int (nI f), .int (nI e - nI 1)] (xM am cI cL S K n iz dz tp bt w ro wa ch al fr) (xt_Qv D cI cL (xM am cI cL S K n iz dz tp bt w ro wa ch al fr) (fun (u : (Nat → Nat)) => (∀ z1, f ≤ z1 ∧ z1 < e → u z1 = k / S ^ (e - 1 - z1) % S) ∧ (∀ z1, ¬ (f ≤ z1 ∧ z1 < e) → u z1 = wa z1)) (fun u => xM am cI cL S K n iz dz tp bt w ro u ch al fr)) := by
  refine xt_start (own := RX1) rfl (by decide) (Nat.le_of_ble_eq_true rfl) (fun pg ev ss mi args below meth cd A Q ls C hE hA hl hW => ?_)
  replace hl : lv_has ls 6 [(0, .ref (am 0)), (1, .int (nI k)), (2, .int (nI f)), (3, .int (nI e - nI 1))] := hl
  refine lv_iload_n C.1 C.2.1 dX1_spell_0 rfl (lv_at hl 1 rfl) ?_
  refine lv_istore C.1 C.2.1 dX1_spell_1 hl (by decide) rfl (fun ls hl => ?_)
  replace hl : lv_has ls 6 [(4, .int (nI k)), (0, .ref (am 0)), (1, .int (nI k)), (2, .int (nI f)), (3, .int (nI e - nI 1))] := hl
  refine lv_iload_n C.1 C.2.1 dX1_spell_3 rfl (lv_at hl 4 rfl) ?_
  refine lv_istore C.1 C.2.1 dX1_spell_4 hl (by decide) rfl (fun ls hl => ?_)
  replace hl : lv_has ls 6 [(5, .int (nI e - nI 1)), (4, .int (nI k)), (0, .ref (am 0)), (1, .int (nI k)), (2, .int (nI f)), (3, .int (nI e - nI 1))] := hl
  have lp6 : ∀ (mq0 : Nat) (q : Nat) (wv : Nat → Nat), q = mq0 → (q ≤ e) → (∀ j, q ≤ j → j < e → wv j = k / S ^ (e - 1 - j) % S) → (∀ j, ¬ (q ≤ j ∧ j < e) → wv j = wa j) → (f ≤ q ∨ q = e) → ∀ (ls : Array Slot) (H : Heap) (locs : List Loc), lv_has ls 6 [(5, .int (nI q - nI 1)), (4, .int (nI (k / S ^ (e - q)))), (0, .ref (am 0)), (2, .int (nI f))] → xt_W D A ss.heap (xM am cI cL S K n iz dz tp bt w ro wv ch al fr) H locs → W pg l ev (xt_R 0) ss mi args below meth cd H locs 0 0 Q (F0 mi 6 ls []) := by
    intro mq0
    induction mq0 using Nat.strongRecOn with
    | _ mq0 ih6 =>
      intro q wv hq6 hq h1 h2 hfq ls H locs hl hW
      refine lv_iload C.1 C.2.1 dX1_spell_6 (lv_at hl 0 rfl) ?_
      refine lv_iload_n C.1 C.2.1 dX1_spell_8 rfl (lv_at hl 3 rfl) ?_
      refine xt_icmp_lt_m C (by omega) (by omega) dX1_spell_9 (tgt := 41) (by decide) (fun h9 => ?_) (fun h9 => ?_)
      · exact xt_vret C hE wv hW (⟨fun j hj => h1 j (by omega) hj.2, fun j hj => h2 j (by omega)⟩) dX1_spell_41
      · rw [pk_sub (show 1 ≤ q by omega)] at hl
        replace hl : lv_has ls 6 [(5, .int (nI (q - 1))), (4, .int (nI (k / S ^ (e - q)))), (0, .ref (am 0)), (2, .int (nI f))] := hl
        refine lv_aload_n C.1 C.2.1 dX1_spell_12 rfl (lv_at hl 2 rfl) ?_
        refine xt_get xt_inX1 C hW 0 rfl rfl 5 (by decide) rfl flX1_way rfl dX1_spell_13 ?_
        refine lv_iload C.1 C.2.1 dX1_spell_16 (lv_at hl 0 rfl) ?_
        refine lv_iload C.1 C.2.1 dX1_spell_18 (lv_at hl 1 rfl) ?_
        refine lv_aload_n C.1 C.2.1 dX1_spell_20 rfl (lv_at hl 2 rfl) ?_
        refine xt_get xt_inX1 C hW 0 rfl rfl 0 (by decide) rfl flX1_states rfl dX1_spell_21 ?_
        refine xt_irem C dX1_spell_24 (hS0) (Nat.lt_of_le_of_lt (Nat.div_le_self _ _) (by omega)) (by omega) ?_
        refine xt_iast C hW 3 rfl (by decide) dX1_spell_25 (by omega) (fun H locs hW => ?_)
        replace hW : xt_W D A ss.heap (xM am cI cL S K n iz dz tp bt w ro (va_up wv (q - 1) ((k / S ^ (e - q)) % S)) ch al fr) H locs := hW
        refine lv_iload C.1 C.2.1 dX1_spell_26 (lv_at hl 1 rfl) ?_
        refine lv_aload_n C.1 C.2.1 dX1_spell_28 rfl (lv_at hl 2 rfl) ?_
        refine xt_get xt_inX1 C hW 0 rfl rfl 0 (by decide) rfl flX1_states rfl dX1_spell_29 ?_
        refine xt_idiv C dX1_spell_32 (hS0) (Nat.lt_of_le_of_lt (Nat.div_le_self _ _) (by omega)) (by omega) ?_
        refine W.eq (g2 := F0 mi 33 ls [.int (nI ((k / S ^ (e - q)) / S))]) rfl ?_
        refine lv_istore C.1 C.2.1 dX1_spell_33 hl (by decide) rfl (fun ls hl => ?_)
        replace hl : lv_has ls 6 [(4, .int (nI ((k / S ^ (e - q)) / S))), (5, .int (nI (q - 1))), (0, .ref (am 0)), (2, .int (nI f))] := hl
        refine lv_iinc (k := 1) C.1 C.2.1 dX1_spell_35 hl rfl xt_decm (by decide) rfl (fun ls hl => ?_)
        replace hl : lv_has ls 6 [(5, .int (nI (q - 1) - nI 1)), (4, .int (nI ((k / S ^ (e - q)) / S))), (0, .ref (am 0)), (2, .int (nI f))] := hl
        refine lv_goto C.1 C.2.1 dX1_spell_38 (tgt := 6) (by decide) ?_
        rw [mq_div (by omega) hq] at hl
        replace hl : lv_has ls 6 [(5, .int (nI (q - 1) - nI 1)), (4, .int (nI (k / S ^ (e - (q - 1))))), (0, .ref (am 0)), (2, .int (nI f))] := hl
        exact ih6 _ (by omega) (q - 1) (va_up wv (q - 1) ((k / S ^ (e - q)) % S)) rfl (by omega) ((mq_spell (by omega) h9 h1 h2 hq).1) ((mq_spell (by omega) h9 h1 h2 hq).2) (Or.inl (by omega)) ls _ _ (lv_sub hl [0, 1, 2, 3] rfl) hW
  exact lp6 _ e wa rfl (Nat.le_refl _) (fun j h3 h4 => absurd h3 (by omega)) (fun j _ => rfl) (Or.inr rfl) ls _ _ (lv_sub hl [0, 1, 2, 4] (by rw [show e - e = 0 by omega, Nat.pow_zero, Nat.div_one]; rfl)) hW
set_option maxHeartbeats 4000000 in
set_option maxRecDepth 100000 in
theorem cm_product (l : Launch) (D : va_G) (cI cL : ClassId) (am : Nat → Nat) (S K n iz dz tp bt : Nat) (w ro wa ch al fr : Nat → Nat) (f : Nat) (e : Nat) (hfe : f ≤ e) (he6 : e ≤ 6) (hw : ∀ i, i < 24 → w i ≤ 9) (hway : ∀ q, q < e → f ≤ q + 1 → wa q < 3) (hrow : ∀ q, q < e → ro q < 4) : xt_M l yX1_product cX1_product 7 (some .long) 0 D cI cL [.ref (am 0), .int (nI f), .int (nI e - nI 1)] (xM am cI cL S K n iz dz tp bt w ro wa ch al fr) (xt_Ql D cI cL (xM am cI cL S K n iz dz tp bt w ro wa ch al fr) (fun (r : Int64) (u : Unit) => r = lN (ms_pr (me w ro) wa f (e - f))) (fun u => xM am cI cL S K n iz dz tp bt w ro wa ch al fr)) := by
  refine xt_start (own := RX1) rfl (by decide) (Nat.le_of_ble_eq_true rfl) (fun pg ev ss mi args below meth cd A Q ls C hE hA hl hW => ?_)
  replace hl : lv_has ls 7 [(0, .ref (am 0)), (1, .int (nI f)), (2, .int (nI e - nI 1))] := hl
  have hwl : ∀ i, i < 24 → w i < 2 ^ 31 := fun i h => Nat.lt_of_le_of_lt (hw i h) (by decide)
  refine xt_lconst C 1 dX1_product_0 (by decide +kernel) ?_
  refine lv_lstore_n C.1 C.2.1 dX1_product_1 rfl hl (by decide) rfl (fun ls hl => ?_)
  replace hl : lv_has ls 7 [(3, .long (lN 1)), (0, .ref (am 0)), (1, .int (nI f)), (2, .int (nI e - nI 1))] := hl
  refine lv_iload_n C.1 C.2.1 dX1_product_2 rfl (lv_at hl 2 rfl) ?_
  refine lv_istore C.1 C.2.1 dX1_product_3 hl (by decide) rfl (fun ls hl => ?_)
  replace hl : lv_has ls 7 [(5, .int (nI f)), (3, .long (lN 1)), (0, .ref (am 0)), (1, .int (nI f)), (2, .int (nI e - nI 1))] := hl
  have lp5 : ∀ (mq0 : Nat) (c : Nat), e - (f + c) = mq0 → (f + c ≤ e) → ∀ (ls : Array Slot) (H : Heap) (locs : List Loc), lv_has ls 7 [(5, .int (nI (f + c))), (3, .long (lN (ms_pr (me w ro) wa f c))), (0, .ref (am 0)), (2, .int (nI e - nI 1))] → xt_W D A ss.heap (xM am cI cL S K n iz dz tp bt w ro wa ch al fr) H locs → W pg l ev (xt_R 0) ss mi args below meth cd H locs 0 0 Q (F0 mi 5 ls []) := by
    intro mq0
    induction mq0 using Nat.strongRecOn with
    | _ mq0 ih5 =>
      intro c hq5 hc ls H locs hl hW
      refine lv_iload C.1 C.2.1 dX1_product_5 (lv_at hl 0 rfl) ?_
      refine lv_iload_n C.1 C.2.1 dX1_product_7 rfl (lv_at hl 3 rfl) ?_
      refine xt_icmp_gt_m C (by omega) (by omega) dX1_product_8 (tgt := 92) (by decide) (fun h8 => ?_) (fun h8 => ?_)
      · refine lv_lload_n C.1 C.2.1 dX1_product_92 rfl (lv_at hl 1 rfl) ?_
        exact xt_lret C hE () hW (by show lN (ms_pr _ _ f c) = lN _; rw [show c = e - f by omega]) dX1_product_93
      · have hw1 := hway (f + c) (by omega) (by omega)
        have hw2 := hway (f + c - 1) (by omega) (by omega)
        have hr1 := hrow (f + c) (by omega)
        refine lv_iload C.1 C.2.1 dX1_product_11 (lv_at hl 0 rfl) ?_
        refine xt_if_ne C (by omega) dX1_product_13 (tgt := 25) (by decide) (fun h13 => ?_) (fun h13 => ?_)
        · refine xt_iconst C 3 dX1_product_25 (by decide +kernel) ?_
          refine xt_iconst C 3 dX1_product_26 (by decide +kernel) ?_
          refine lv_aload_n C.1 C.2.1 dX1_product_27 rfl (lv_at hl 2 rfl) ?_
          refine xt_get xt_inX1 C hW 0 rfl rfl 5 (by decide) rfl flX1_way rfl dX1_product_28 ?_
          refine lv_iload C.1 C.2.1 dX1_product_31 (lv_at hl 0 rfl) ?_
          refine xt_iconst C 1 dX1_product_33 (by decide +kernel) ?_
          refine xt_isub C dX1_product_34 (by omega) ?_
          refine xt_iald C hW 3 rfl (by decide) dX1_product_35 (by omega) ?_
          refine xt_imul C dX1_product_36 ?_
          refine xt_iadd C dX1_product_37 ?_
          refine lv_aload_n C.1 C.2.1 dX1_product_38 rfl (lv_at hl 2 rfl) ?_
          refine xt_get xt_inX1 C hW 0 rfl rfl 5 (by decide) rfl flX1_way rfl dX1_product_39 ?_
          refine W.eq (g2 := F0 mi 42 ls [.ref (am 3), .int (nI (3 + (3 * (wa ((f + c) - 1)))))]) rfl ?_
          refine lv_iload C.1 C.2.1 dX1_product_42 (lv_at hl 0 rfl) ?_
          refine xt_iald C hW 3 rfl (by decide) dX1_product_44 (by omega) ?_
          refine xt_iadd C dX1_product_45 ?_
          refine lv_istore C.1 C.2.1 dX1_product_46 hl (by decide) rfl (fun ls hl => ?_)
          replace hl : lv_has ls 7 [(6, .int (nI ((3 + (3 * (wa ((f + c) - 1)))) + (wa (f + c))))), (5, .int (nI (f + c))), (3, .long (lN (ms_pr (me w ro) wa f c))), (0, .ref (am 0)), (2, .int (nI e - nI 1))] := hl
          refine lv_lload_n C.1 C.2.1 dX1_product_48 rfl (lv_at hl 2 rfl) ?_
          refine lv_aload_n C.1 C.2.1 dX1_product_49 rfl (lv_at hl 3 rfl) ?_
          refine xt_get xt_inX1 C hW 0 rfl rfl 2 (by decide) rfl flX1_weights rfl dX1_product_50 ?_
          refine lv_iload C.1 C.2.1 dX1_product_53 (lv_at hl 0 rfl) ?_
          refine xt_iald C hW 1 rfl (by decide) dX1_product_55 (by omega) ?_
          refine xt_i2l C dX1_product_56 (hwl _ (by omega)) ?_
          refine xt_lmul C dX1_product_57 ?_
          refine lv_aload_n C.1 C.2.1 dX1_product_58 rfl (lv_at hl 3 rfl) ?_
          refine W.eq (g2 := F0 mi 59 ls [.ref (am 0), .long (lN ((ms_pr (me w ro) wa f c) * (w ((3 + (3 * (wa ((f + c) - 1)))) + (wa (f + c))))))]) rfl ?_
          refine xt_get xt_inX1 C hW 0 rfl rfl 2 (by decide) rfl flX1_weights rfl dX1_product_59 ?_
          refine xt_bipush C 12 dX1_product_62 (by decide +kernel) ?_
          refine xt_iconst C 4 dX1_product_64 (by decide +kernel) ?_
          refine lv_aload_n C.1 C.2.1 dX1_product_65 rfl (lv_at hl 3 rfl) ?_
          refine xt_get xt_inX1 C hW 0 rfl rfl 5 (by decide) rfl flX1_way rfl dX1_product_66 ?_
          refine lv_iload C.1 C.2.1 dX1_product_69 (lv_at hl 1 rfl) ?_
          refine xt_iald C hW 3 rfl (by decide) dX1_product_71 (by omega) ?_
          refine xt_imul C dX1_product_72 ?_
          refine xt_iadd C dX1_product_73 ?_
          refine lv_aload_n C.1 C.2.1 dX1_product_74 rfl (lv_at hl 3 rfl) ?_
          refine xt_get xt_inX1 C hW 0 rfl rfl 4 (by decide) rfl flX1_row rfl dX1_product_75 ?_
          refine lv_iload C.1 C.2.1 dX1_product_78 (lv_at hl 1 rfl) ?_
          refine W.eq (g2 := F0 mi 80 ls [.int (nI (f + c)), .ref (am 2), .int (nI (12 + (4 * (wa (f + c))))), .ref (am 1), .long (lN ((ms_pr (me w ro) wa f c) * (w ((3 + (3 * (wa ((f + c) - 1)))) + (wa (f + c))))))]) rfl ?_
          refine xt_iald C hW 2 rfl (by decide) dX1_product_80 (by omega) ?_
          refine xt_iadd C dX1_product_81 ?_
          refine xt_iald C hW 1 rfl (by decide) dX1_product_82 (by omega) ?_
          refine xt_i2l C dX1_product_83 (hwl _ (by omega)) ?_
          refine xt_lmul C dX1_product_84 ?_
          refine lv_lstore_n C.1 C.2.1 dX1_product_85 rfl hl (by decide) rfl (fun ls hl => ?_)
          replace hl : lv_has ls 7 [(3, .long (lN (((ms_pr (me w ro) wa f c) * (w ((3 + (3 * (wa ((f + c) - 1)))) + (wa (f + c))))) * (w ((12 + (4 * (wa (f + c)))) + (ro (f + c))))))), (6, .int (nI ((3 + (3 * (wa ((f + c) - 1)))) + (wa (f + c))))), (5, .int (nI (f + c))), (0, .ref (am 0)), (2, .int (nI e - nI 1))] := hl
          refine lv_iinc (k := 2) C.1 C.2.1 dX1_product_86 hl rfl xt_inc (by decide) rfl (fun ls hl => ?_)
          replace hl : lv_has ls 7 [(5, .int (nI (f + c + 1))), (3, .long (lN (((ms_pr (me w ro) wa f c) * (w ((3 + (3 * (wa ((f + c) - 1)))) + (wa (f + c))))) * (w ((12 + (4 * (wa (f + c)))) + (ro (f + c))))))), (6, .int (nI ((3 + (3 * (wa ((f + c) - 1)))) + (wa (f + c))))), (0, .ref (am 0)), (2, .int (nI e - nI 1))] := hl
          refine lv_goto C.1 C.2.1 dX1_product_89 (tgt := 5) (by decide) ?_
          rw [mq_prn h13] at hl
          replace hl : lv_has ls 7 [(5, .int (nI (f + c + 1))), (3, .long (lN (ms_pr (me w ro) wa f (c + 1)))), (6, .int (nI ((3 + (3 * (wa ((f + c) - 1)))) + (wa (f + c))))), (0, .ref (am 0)), (2, .int (nI e - nI 1))] := hl
          exact ih5 _ (by omega) (c + 1) rfl (by omega) ls _ _ (lv_sub hl [0, 1, 3, 4] rfl) hW
        · have hw3 := hway 0 (by omega) (by omega)
          refine lv_aload_n C.1 C.2.1 dX1_product_16 rfl (lv_at hl 2 rfl) ?_
          refine xt_get xt_inX1 C hW 0 rfl rfl 5 (by decide) rfl flX1_way rfl dX1_product_17 ?_
          refine xt_iconst C 0 dX1_product_20 (by decide +kernel) ?_
          refine xt_iald C hW 3 rfl (by decide) dX1_product_21 (by omega) ?_
          refine lv_goto C.1 C.2.1 dX1_product_22 (tgt := 46) (by decide) ?_
          refine lv_istore C.1 C.2.1 dX1_product_46 hl (by decide) rfl (fun ls hl => ?_)
          replace hl : lv_has ls 7 [(6, .int (nI (wa 0))), (5, .int (nI (f + c))), (3, .long (lN (ms_pr (me w ro) wa f c))), (0, .ref (am 0)), (2, .int (nI e - nI 1))] := hl
          refine lv_lload_n C.1 C.2.1 dX1_product_48 rfl (lv_at hl 2 rfl) ?_
          refine lv_aload_n C.1 C.2.1 dX1_product_49 rfl (lv_at hl 3 rfl) ?_
          refine xt_get xt_inX1 C hW 0 rfl rfl 2 (by decide) rfl flX1_weights rfl dX1_product_50 ?_
          refine lv_iload C.1 C.2.1 dX1_product_53 (lv_at hl 0 rfl) ?_
          refine xt_iald C hW 1 rfl (by decide) dX1_product_55 (by omega) ?_
          refine xt_i2l C dX1_product_56 (hwl _ (by omega)) ?_
          refine W.eq (g2 := F0 mi 57 ls [.long (lN (w (wa 0))), .long (lN (ms_pr (me w ro) wa f c))]) rfl ?_
          refine xt_lmul C dX1_product_57 ?_
          refine lv_aload_n C.1 C.2.1 dX1_product_58 rfl (lv_at hl 3 rfl) ?_
          refine xt_get xt_inX1 C hW 0 rfl rfl 2 (by decide) rfl flX1_weights rfl dX1_product_59 ?_
          refine xt_bipush C 12 dX1_product_62 (by decide +kernel) ?_
          refine xt_iconst C 4 dX1_product_64 (by decide +kernel) ?_
          refine lv_aload_n C.1 C.2.1 dX1_product_65 rfl (lv_at hl 3 rfl) ?_
          refine xt_get xt_inX1 C hW 0 rfl rfl 5 (by decide) rfl flX1_way rfl dX1_product_66 ?_
          refine lv_iload C.1 C.2.1 dX1_product_69 (lv_at hl 1 rfl) ?_
          refine xt_iald C hW 3 rfl (by decide) dX1_product_71 (by omega) ?_
          refine xt_imul C dX1_product_72 ?_
          refine xt_iadd C dX1_product_73 ?_
          refine lv_aload_n C.1 C.2.1 dX1_product_74 rfl (lv_at hl 3 rfl) ?_
          refine W.eq (g2 := F0 mi 75 ls [.ref (am 0), .int (nI (12 + (4 * (wa (f + c))))), .ref (am 1), .long (lN ((ms_pr (me w ro) wa f c) * (w (wa 0))))]) rfl ?_
          refine xt_get xt_inX1 C hW 0 rfl rfl 4 (by decide) rfl flX1_row rfl dX1_product_75 ?_
          refine lv_iload C.1 C.2.1 dX1_product_78 (lv_at hl 1 rfl) ?_
          refine xt_iald C hW 2 rfl (by decide) dX1_product_80 (by omega) ?_
          refine xt_iadd C dX1_product_81 ?_
          refine xt_iald C hW 1 rfl (by decide) dX1_product_82 (by omega) ?_
          refine xt_i2l C dX1_product_83 (hwl _ (by omega)) ?_
          refine xt_lmul C dX1_product_84 ?_
          refine lv_lstore_n C.1 C.2.1 dX1_product_85 rfl hl (by decide) rfl (fun ls hl => ?_)
          replace hl : lv_has ls 7 [(3, .long (lN (((ms_pr (me w ro) wa f c) * (w (wa 0))) * (w ((12 + (4 * (wa (f + c)))) + (ro (f + c))))))), (6, .int (nI (wa 0))), (5, .int (nI (f + c))), (0, .ref (am 0)), (2, .int (nI e - nI 1))] := hl
          refine lv_iinc (k := 2) C.1 C.2.1 dX1_product_86 hl rfl xt_inc (by decide) rfl (fun ls hl => ?_)
          replace hl : lv_has ls 7 [(5, .int (nI (f + c + 1))), (3, .long (lN (((ms_pr (me w ro) wa f c) * (w (wa 0))) * (w ((12 + (4 * (wa (f + c)))) + (ro (f + c))))))), (6, .int (nI (wa 0))), (0, .ref (am 0)), (2, .int (nI e - nI 1))] := hl
          refine lv_goto C.1 C.2.1 dX1_product_89 (tgt := 5) (by decide) ?_
          rw [mq_prs h13] at hl
          replace hl : lv_has ls 7 [(5, .int (nI (f + c + 1))), (3, .long (lN (ms_pr (me w ro) wa f (c + 1)))), (6, .int (nI (wa 0))), (0, .ref (am 0)), (2, .int (nI e - nI 1))] := hl
          exact ih5 _ (by omega) (c + 1) rfl (by omega) ls _ _ (lv_sub hl [0, 1, 3, 4] rfl) hW
  exact lp5 _ 0 rfl (by omega) ls _ _ (lv_sub hl [0, 1, 2, 4] rfl) hW
set_option maxHeartbeats 4000000 in
set_option maxRecDepth 100000 in
theorem cm_product_n (l : Launch) (D : va_G) (cI cL : ClassId) (am : Nat → Nat) (S K n iz dz tp bt : Nat) (w ro wa ch al fr : Nat → Nat) (f : Nat) (e : Nat) (hfe : f ≤ (e + 1)) (he6 : (e + 1) ≤ 6) (hw : ∀ i, i < 24 → w i ≤ 9) (hway : ∀ q, q < (e + 1) → f ≤ q + 1 → wa q < 3) (hrow : ∀ q, q < (e + 1) → ro q < 4) : xt_M l yX1_product cX1_product 7 (some .long) 0 D cI cL [.ref (am 0), .int (nI f), .int (nI e)] (xM am cI cL S K n iz dz tp bt w ro wa ch al fr) (xt_Ql D cI cL (xM am cI cL S K n iz dz tp bt w ro wa ch al fr) (fun (r : Int64) (u : Unit) => r = lN (ms_pr (me w ro) wa f ((e + 1) - f))) (fun u => xM am cI cL S K n iz dz tp bt w ro wa ch al fr)) := by
  refine xt_start (own := RX1) rfl (by decide) (Nat.le_of_ble_eq_true rfl) (fun pg ev ss mi args below meth cd A Q ls C hE hA hl hW => ?_)
  replace hl : lv_has ls 7 [(0, .ref (am 0)), (1, .int (nI f)), (2, .int (nI e))] := hl
  have hwl : ∀ i, i < 24 → w i < 2 ^ 31 := fun i h => Nat.lt_of_le_of_lt (hw i h) (by decide)
  refine xt_lconst C 1 dX1_product_0 (by decide +kernel) ?_
  refine lv_lstore_n C.1 C.2.1 dX1_product_1 rfl hl (by decide) rfl (fun ls hl => ?_)
  replace hl : lv_has ls 7 [(3, .long (lN 1)), (0, .ref (am 0)), (1, .int (nI f)), (2, .int (nI e))] := hl
  refine lv_iload_n C.1 C.2.1 dX1_product_2 rfl (lv_at hl 2 rfl) ?_
  refine lv_istore C.1 C.2.1 dX1_product_3 hl (by decide) rfl (fun ls hl => ?_)
  replace hl : lv_has ls 7 [(5, .int (nI f)), (3, .long (lN 1)), (0, .ref (am 0)), (1, .int (nI f)), (2, .int (nI e))] := hl
  have lp5 : ∀ (mq0 : Nat) (c : Nat), (e + 1) - (f + c) = mq0 → (f + c ≤ (e + 1)) → ∀ (ls : Array Slot) (H : Heap) (locs : List Loc), lv_has ls 7 [(5, .int (nI (f + c))), (3, .long (lN (ms_pr (me w ro) wa f c))), (0, .ref (am 0)), (2, .int (nI e))] → xt_W D A ss.heap (xM am cI cL S K n iz dz tp bt w ro wa ch al fr) H locs → W pg l ev (xt_R 0) ss mi args below meth cd H locs 0 0 Q (F0 mi 5 ls []) := by
    intro mq0
    induction mq0 using Nat.strongRecOn with
    | _ mq0 ih5 =>
      intro c hq5 hc ls H locs hl hW
      refine lv_iload C.1 C.2.1 dX1_product_5 (lv_at hl 0 rfl) ?_
      refine lv_iload_n C.1 C.2.1 dX1_product_7 rfl (lv_at hl 3 rfl) ?_
      refine xt_icmp_gt C (by omega) (by omega) dX1_product_8 (tgt := 92) (by decide) (fun h8 => ?_) (fun h8 => ?_)
      · refine lv_lload_n C.1 C.2.1 dX1_product_92 rfl (lv_at hl 1 rfl) ?_
        exact xt_lret C hE () hW (by show lN (ms_pr _ _ f c) = lN _; rw [show c = (e + 1) - f by omega]) dX1_product_93
      · have hw1 := hway (f + c) (by omega) (by omega)
        have hw2 := hway (f + c - 1) (by omega) (by omega)
        have hr1 := hrow (f + c) (by omega)
        refine lv_iload C.1 C.2.1 dX1_product_11 (lv_at hl 0 rfl) ?_
        refine xt_if_ne C (by omega) dX1_product_13 (tgt := 25) (by decide) (fun h13 => ?_) (fun h13 => ?_)
        · refine xt_iconst C 3 dX1_product_25 (by decide +kernel) ?_
          refine xt_iconst C 3 dX1_product_26 (by decide +kernel) ?_
          refine lv_aload_n C.1 C.2.1 dX1_product_27 rfl (lv_at hl 2 rfl) ?_
          refine xt_get xt_inX1 C hW 0 rfl rfl 5 (by decide) rfl flX1_way rfl dX1_product_28 ?_
          refine lv_iload C.1 C.2.1 dX1_product_31 (lv_at hl 0 rfl) ?_
          refine xt_iconst C 1 dX1_product_33 (by decide +kernel) ?_
          refine xt_isub C dX1_product_34 (by omega) ?_
          refine xt_iald C hW 3 rfl (by decide) dX1_product_35 (by omega) ?_
          refine xt_imul C dX1_product_36 ?_
          refine xt_iadd C dX1_product_37 ?_
          refine lv_aload_n C.1 C.2.1 dX1_product_38 rfl (lv_at hl 2 rfl) ?_
          refine xt_get xt_inX1 C hW 0 rfl rfl 5 (by decide) rfl flX1_way rfl dX1_product_39 ?_
          refine W.eq (g2 := F0 mi 42 ls [.ref (am 3), .int (nI (3 + (3 * (wa ((f + c) - 1)))))]) rfl ?_
          refine lv_iload C.1 C.2.1 dX1_product_42 (lv_at hl 0 rfl) ?_
          refine xt_iald C hW 3 rfl (by decide) dX1_product_44 (by omega) ?_
          refine xt_iadd C dX1_product_45 ?_
          refine lv_istore C.1 C.2.1 dX1_product_46 hl (by decide) rfl (fun ls hl => ?_)
          replace hl : lv_has ls 7 [(6, .int (nI ((3 + (3 * (wa ((f + c) - 1)))) + (wa (f + c))))), (5, .int (nI (f + c))), (3, .long (lN (ms_pr (me w ro) wa f c))), (0, .ref (am 0)), (2, .int (nI e))] := hl
          refine lv_lload_n C.1 C.2.1 dX1_product_48 rfl (lv_at hl 2 rfl) ?_
          refine lv_aload_n C.1 C.2.1 dX1_product_49 rfl (lv_at hl 3 rfl) ?_
          refine xt_get xt_inX1 C hW 0 rfl rfl 2 (by decide) rfl flX1_weights rfl dX1_product_50 ?_
          refine lv_iload C.1 C.2.1 dX1_product_53 (lv_at hl 0 rfl) ?_
          refine xt_iald C hW 1 rfl (by decide) dX1_product_55 (by omega) ?_
          refine xt_i2l C dX1_product_56 (hwl _ (by omega)) ?_
          refine xt_lmul C dX1_product_57 ?_
          refine lv_aload_n C.1 C.2.1 dX1_product_58 rfl (lv_at hl 3 rfl) ?_
          refine W.eq (g2 := F0 mi 59 ls [.ref (am 0), .long (lN ((ms_pr (me w ro) wa f c) * (w ((3 + (3 * (wa ((f + c) - 1)))) + (wa (f + c))))))]) rfl ?_
          refine xt_get xt_inX1 C hW 0 rfl rfl 2 (by decide) rfl flX1_weights rfl dX1_product_59 ?_
          refine xt_bipush C 12 dX1_product_62 (by decide +kernel) ?_
          refine xt_iconst C 4 dX1_product_64 (by decide +kernel) ?_
          refine lv_aload_n C.1 C.2.1 dX1_product_65 rfl (lv_at hl 3 rfl) ?_
          refine xt_get xt_inX1 C hW 0 rfl rfl 5 (by decide) rfl flX1_way rfl dX1_product_66 ?_
          refine lv_iload C.1 C.2.1 dX1_product_69 (lv_at hl 1 rfl) ?_
          refine xt_iald C hW 3 rfl (by decide) dX1_product_71 (by omega) ?_
          refine xt_imul C dX1_product_72 ?_
          refine xt_iadd C dX1_product_73 ?_
          refine lv_aload_n C.1 C.2.1 dX1_product_74 rfl (lv_at hl 3 rfl) ?_
          refine xt_get xt_inX1 C hW 0 rfl rfl 4 (by decide) rfl flX1_row rfl dX1_product_75 ?_
          refine lv_iload C.1 C.2.1 dX1_product_78 (lv_at hl 1 rfl) ?_
          refine W.eq (g2 := F0 mi 80 ls [.int (nI (f + c)), .ref (am 2), .int (nI (12 + (4 * (wa (f + c))))), .ref (am 1), .long (lN ((ms_pr (me w ro) wa f c) * (w ((3 + (3 * (wa ((f + c) - 1)))) + (wa (f + c))))))]) rfl ?_
          refine xt_iald C hW 2 rfl (by decide) dX1_product_80 (by omega) ?_
          refine xt_iadd C dX1_product_81 ?_
          refine xt_iald C hW 1 rfl (by decide) dX1_product_82 (by omega) ?_
          refine xt_i2l C dX1_product_83 (hwl _ (by omega)) ?_
          refine xt_lmul C dX1_product_84 ?_
          refine lv_lstore_n C.1 C.2.1 dX1_product_85 rfl hl (by decide) rfl (fun ls hl => ?_)
          replace hl : lv_has ls 7 [(3, .long (lN (((ms_pr (me w ro) wa f c) * (w ((3 + (3 * (wa ((f + c) - 1)))) + (wa (f + c))))) * (w ((12 + (4 * (wa (f + c)))) + (ro (f + c))))))), (6, .int (nI ((3 + (3 * (wa ((f + c) - 1)))) + (wa (f + c))))), (5, .int (nI (f + c))), (0, .ref (am 0)), (2, .int (nI e))] := hl
          refine lv_iinc (k := 2) C.1 C.2.1 dX1_product_86 hl rfl xt_inc (by decide) rfl (fun ls hl => ?_)
          replace hl : lv_has ls 7 [(5, .int (nI (f + c + 1))), (3, .long (lN (((ms_pr (me w ro) wa f c) * (w ((3 + (3 * (wa ((f + c) - 1)))) + (wa (f + c))))) * (w ((12 + (4 * (wa (f + c)))) + (ro (f + c))))))), (6, .int (nI ((3 + (3 * (wa ((f + c) - 1)))) + (wa (f + c))))), (0, .ref (am 0)), (2, .int (nI e))] := hl
          refine lv_goto C.1 C.2.1 dX1_product_89 (tgt := 5) (by decide) ?_
          rw [mq_prn h13] at hl
          replace hl : lv_has ls 7 [(5, .int (nI (f + c + 1))), (3, .long (lN (ms_pr (me w ro) wa f (c + 1)))), (6, .int (nI ((3 + (3 * (wa ((f + c) - 1)))) + (wa (f + c))))), (0, .ref (am 0)), (2, .int (nI e))] := hl
          exact ih5 _ (by omega) (c + 1) rfl (by omega) ls _ _ (lv_sub hl [0, 1, 3, 4] rfl) hW
        · have hw3 := hway 0 (by omega) (by omega)
          refine lv_aload_n C.1 C.2.1 dX1_product_16 rfl (lv_at hl 2 rfl) ?_
          refine xt_get xt_inX1 C hW 0 rfl rfl 5 (by decide) rfl flX1_way rfl dX1_product_17 ?_
          refine xt_iconst C 0 dX1_product_20 (by decide +kernel) ?_
          refine xt_iald C hW 3 rfl (by decide) dX1_product_21 (by omega) ?_
          refine lv_goto C.1 C.2.1 dX1_product_22 (tgt := 46) (by decide) ?_
          refine lv_istore C.1 C.2.1 dX1_product_46 hl (by decide) rfl (fun ls hl => ?_)
          replace hl : lv_has ls 7 [(6, .int (nI (wa 0))), (5, .int (nI (f + c))), (3, .long (lN (ms_pr (me w ro) wa f c))), (0, .ref (am 0)), (2, .int (nI e))] := hl
          refine lv_lload_n C.1 C.2.1 dX1_product_48 rfl (lv_at hl 2 rfl) ?_
          refine lv_aload_n C.1 C.2.1 dX1_product_49 rfl (lv_at hl 3 rfl) ?_
          refine xt_get xt_inX1 C hW 0 rfl rfl 2 (by decide) rfl flX1_weights rfl dX1_product_50 ?_
          refine lv_iload C.1 C.2.1 dX1_product_53 (lv_at hl 0 rfl) ?_
          refine xt_iald C hW 1 rfl (by decide) dX1_product_55 (by omega) ?_
          refine xt_i2l C dX1_product_56 (hwl _ (by omega)) ?_
          refine W.eq (g2 := F0 mi 57 ls [.long (lN (w (wa 0))), .long (lN (ms_pr (me w ro) wa f c))]) rfl ?_
          refine xt_lmul C dX1_product_57 ?_
          refine lv_aload_n C.1 C.2.1 dX1_product_58 rfl (lv_at hl 3 rfl) ?_
          refine xt_get xt_inX1 C hW 0 rfl rfl 2 (by decide) rfl flX1_weights rfl dX1_product_59 ?_
          refine xt_bipush C 12 dX1_product_62 (by decide +kernel) ?_
          refine xt_iconst C 4 dX1_product_64 (by decide +kernel) ?_
          refine lv_aload_n C.1 C.2.1 dX1_product_65 rfl (lv_at hl 3 rfl) ?_
          refine xt_get xt_inX1 C hW 0 rfl rfl 5 (by decide) rfl flX1_way rfl dX1_product_66 ?_
          refine lv_iload C.1 C.2.1 dX1_product_69 (lv_at hl 1 rfl) ?_
          refine xt_iald C hW 3 rfl (by decide) dX1_product_71 (by omega) ?_
          refine xt_imul C dX1_product_72 ?_
          refine xt_iadd C dX1_product_73 ?_
          refine lv_aload_n C.1 C.2.1 dX1_product_74 rfl (lv_at hl 3 rfl) ?_
          refine W.eq (g2 := F0 mi 75 ls [.ref (am 0), .int (nI (12 + (4 * (wa (f + c))))), .ref (am 1), .long (lN ((ms_pr (me w ro) wa f c) * (w (wa 0))))]) rfl ?_
          refine xt_get xt_inX1 C hW 0 rfl rfl 4 (by decide) rfl flX1_row rfl dX1_product_75 ?_
          refine lv_iload C.1 C.2.1 dX1_product_78 (lv_at hl 1 rfl) ?_
          refine xt_iald C hW 2 rfl (by decide) dX1_product_80 (by omega) ?_
          refine xt_iadd C dX1_product_81 ?_
          refine xt_iald C hW 1 rfl (by decide) dX1_product_82 (by omega) ?_
          refine xt_i2l C dX1_product_83 (hwl _ (by omega)) ?_
          refine xt_lmul C dX1_product_84 ?_
          refine lv_lstore_n C.1 C.2.1 dX1_product_85 rfl hl (by decide) rfl (fun ls hl => ?_)
          replace hl : lv_has ls 7 [(3, .long (lN (((ms_pr (me w ro) wa f c) * (w (wa 0))) * (w ((12 + (4 * (wa (f + c)))) + (ro (f + c))))))), (6, .int (nI (wa 0))), (5, .int (nI (f + c))), (0, .ref (am 0)), (2, .int (nI e))] := hl
          refine lv_iinc (k := 2) C.1 C.2.1 dX1_product_86 hl rfl xt_inc (by decide) rfl (fun ls hl => ?_)
          replace hl : lv_has ls 7 [(5, .int (nI (f + c + 1))), (3, .long (lN (((ms_pr (me w ro) wa f c) * (w (wa 0))) * (w ((12 + (4 * (wa (f + c)))) + (ro (f + c))))))), (6, .int (nI (wa 0))), (0, .ref (am 0)), (2, .int (nI e))] := hl
          refine lv_goto C.1 C.2.1 dX1_product_89 (tgt := 5) (by decide) ?_
          rw [mq_prs h13] at hl
          replace hl : lv_has ls 7 [(5, .int (nI (f + c + 1))), (3, .long (lN (ms_pr (me w ro) wa f (c + 1)))), (6, .int (nI (wa 0))), (0, .ref (am 0)), (2, .int (nI e))] := hl
          exact ih5 _ (by omega) (c + 1) rfl (by omega) ls _ _ (lv_sub hl [0, 1, 3, 4] rfl) hW
  exact lp5 _ 0 rfl (by omega) ls _ _ (lv_sub hl [0, 1, 2, 4] rfl) hW
set_option maxHeartbeats 4000000 in
set_option maxRecDepth 100000 in
theorem cm_weightOf (l : Launch) (D : va_G) (cI cL : ClassId) (am : Nat → Nat) (S K n iz dz tp bt : Nat) (w ro wa ch al fr : Nat → Nat) (k : Nat) (hV : mq_V S K n w ro) (hkS : k < S ^ n) : xt_M l yX1_weightOf cX1_weightOf 2 (some .long) 1 D cI cL [.ref (am 0), .int (nI k)] (xM am cI cL S K n iz dz tp bt w ro wa ch al fr) (xt_Ql D cI cL (xM am cI cL S K n iz dz tp bt w ro wa ch al fr) (fun (r : Int64) (u : (Nat → Nat)) => r = lN (ms_wt (me w ro) S n k) ∧ ∀ z1, z1 < n → u z1 = ms_dg S n k z1) (fun u => xM am cI cL S K n iz dz tp bt w ro u ch al fr)) := by
  obtain ⟨hS0, hS3, hK0, hK4, hn6, hw, hsK⟩ := hV
  have hsy : ∀ p, p < n → ro p < 4 := fun p h => Nat.lt_of_lt_of_le (hsK p h) hK4
  have hpb := ms_pow_le hS3 hn6
  refine xt_start (own := RX1) rfl (by decide) (Nat.le_of_ble_eq_true rfl) (fun pg ev ss mi args below meth cd A Q ls C hE hA hl hW => ?_)
  replace hl : lv_has ls 2 [(0, .ref (am 0)), (1, .int (nI k))] := hl
  refine lv_aload_n C.1 C.2.1 dX1_weightOf_0 rfl (lv_at hl 0 rfl) ?_
  refine lv_iload_n C.1 C.2.1 dX1_weightOf_1 rfl (lv_at hl 1 rfl) ?_
  refine xt_iconst C 0 dX1_weightOf_2 (by decide +kernel) ?_
  refine lv_aload_n C.1 C.2.1 dX1_weightOf_3 rfl (lv_at hl 0 rfl) ?_
  refine xt_get xt_inX1 C hW 0 rfl rfl 3 (by decide) rfl flX1_n rfl dX1_weightOf_4 ?_
  refine xt_iconst C 1 dX1_weightOf_7 (by decide +kernel) ?_
  refine lv_isub C.1 C.2.1 dX1_weightOf_8 ?_
  refine xt_cvd hA hW (xt_runV C hW.1 hW.2.1 cwX1_X1_spell (cm_spell l D cI cL am S K n iz dz tp bt w ro wa ch al fr k 0 n (by omega) (by omega) (by omega) (by omega) (by omega)) rfl rfl rfl hl.1 (rest := []) rfl (Nat.le_of_ble_eq_true rfl) ⟨(Nat.le_of_ble_eq_true rfl), (Nat.le_of_ble_eq_true rfl)⟩ ⟨Nat.zero_le _, Nat.zero_le _⟩ dX1_weightOf_9) (fun u H locs hp9 hW => ?_)
  obtain ⟨wa_9, rfl⟩ : ∃ z, z = u := ⟨_, rfl⟩
  replace hW : xt_W D A ss.heap (xM am cI cL S K n iz dz tp bt w ro wa_9 ch al fr) H locs := hW
  replace hp9 : (∀ z1, 0 ≤ z1 ∧ z1 < n → wa_9 z1 = k / S ^ (n - 1 - z1) % S) ∧ (∀ z1, ¬ (0 ≤ z1 ∧ z1 < n) → wa_9 z1 = wa z1) := hp9
  refine lv_aload_n C.1 C.2.1 dX1_weightOf_12 rfl (lv_at hl 0 rfl) ?_
  refine xt_iconst C 0 dX1_weightOf_13 (by decide +kernel) ?_
  refine lv_aload_n C.1 C.2.1 dX1_weightOf_14 rfl (lv_at hl 0 rfl) ?_
  refine xt_get xt_inX1 C hW 0 rfl rfl 3 (by decide) rfl flX1_n rfl dX1_weightOf_15 ?_
  refine W.eq (g2 := F0 mi 18 ls [.int (nI n), .int (nI 0), .ref (am 0)]) rfl ?_
  refine xt_iconst C 1 dX1_weightOf_18 (by decide +kernel) ?_
  refine lv_isub C.1 C.2.1 dX1_weightOf_19 ?_
  refine xt_cl hA hW (xt_runV C hW.1 hW.2.1 cwX1_X1_product (cm_product l D cI cL am S K n iz dz tp bt w ro wa_9 ch al fr 0 n (Nat.zero_le _) (hn6) (hw) (fun q hq _ => by rw [hp9.1 q ⟨Nat.zero_le _, hq⟩]; exact Nat.lt_of_lt_of_le (Nat.mod_lt _ hS0) hS3) (hsy)) rfl rfl rfl hl.1 (rest := []) rfl (Nat.le_of_ble_eq_true rfl) ⟨(Nat.le_of_ble_eq_true rfl), (Nat.le_of_ble_eq_true rfl)⟩ ⟨Nat.zero_le _, Nat.zero_le _⟩ dX1_weightOf_20) (fun r20 u H locs hp20 hW => ?_)
  replace hW : xt_W D A ss.heap (xM am cI cL S K n iz dz tp bt w ro wa_9 ch al fr) H locs := hW
  subst hp20
  exact xt_lret C hE wa_9 hW (⟨by show lN (ms_pr _ _ 0 (n - 0)) = lN _; rw [Nat.sub_zero]; exact congrArg lN (ms_pr_congr (fun q h1 _ => hp9.1 q ⟨Nat.zero_le _, by omega⟩)), fun q hq => hp9.1 q ⟨Nat.zero_le _, hq⟩⟩) dX1_weightOf_23
set_option maxHeartbeats 4000000 in
set_option maxRecDepth 100000 in
theorem cm_total (l : Launch) (D : va_G) (cI cL : ClassId) (am : Nat → Nat) (S K n iz dz tp bt : Nat) (w ro wa ch al fr : Nat → Nat) (hV : mq_V S K n w ro) : xt_M l yX1_total cX1_total 5 (some .long) 2 D cI cL [.ref (am 0)] (xM am cI cL S K n iz dz tp bt w ro wa ch al fr) (xt_Ql D cI cL (xM am cI cL S K n iz dz tp bt w ro wa ch al fr) (fun (r : Int64) (u : (Nat → Nat)) => r = lN (ms_sum (fun z1 => ms_wt (me w ro) S n z1) (S ^ n))) (fun u => xM am cI cL S K n iz dz tp bt w ro u ch al fr)) := by
  have hV2 := hV
  obtain ⟨hS0, hS3, hK0, hK4, hn6, hw, hsK⟩ := hV
  have hsy : ∀ p, p < n → ro p < 4 := fun p h => Nat.lt_of_lt_of_le (hsK p h) hK4
  have hpb := ms_pow_le hS3 hn6
  refine xt_start (own := RX1) rfl (by decide) (Nat.le_of_ble_eq_true rfl) (fun pg ev ss mi args below meth cd A Q ls C hE hA hl hW => ?_)
  replace hl : lv_has ls 5 [(0, .ref (am 0))] := hl
  refine xt_lconst C 0 dX1_total_0 (by decide +kernel) ?_
  refine lv_lstore_n C.1 C.2.1 dX1_total_1 rfl hl (by decide) rfl (fun ls hl => ?_)
  replace hl : lv_has ls 5 [(1, .long (lN 0)), (0, .ref (am 0))] := hl
  refine lv_aload_n C.1 C.2.1 dX1_total_2 rfl (lv_at hl 1 rfl) ?_
  refine lv_aload_n C.1 C.2.1 dX1_total_3 rfl (lv_at hl 1 rfl) ?_
  refine xt_get xt_inX1 C hW 0 rfl rfl 3 (by decide) rfl flX1_n rfl dX1_total_4 ?_
  refine xt_ci hA hW (xt_runV C hW.1 hW.2.1 cwX1_X1_power (cm_power l D cI cL am S K n iz dz tp bt w ro wa ch al fr n (by omega)) rfl rfl rfl hl.1 (rest := []) rfl (Nat.le_of_ble_eq_true rfl) ⟨(Nat.le_of_ble_eq_true rfl), (Nat.le_of_ble_eq_true rfl)⟩ ⟨Nat.zero_le _, Nat.zero_le _⟩ dX1_total_7) (fun r7 u H locs hp7 hW => ?_)
  replace hW : xt_W D A ss.heap (xM am cI cL S K n iz dz tp bt w ro wa ch al fr) H locs := hW
  subst hp7
  refine lv_istore_n C.1 C.2.1 dX1_total_10 rfl hl (by decide) rfl (fun ls hl => ?_)
  replace hl : lv_has ls 5 [(3, .int (nI (S ^ n))), (1, .long (lN 0)), (0, .ref (am 0))] := hl
  refine xt_iconst C 0 dX1_total_11 (by decide +kernel) ?_
  refine lv_istore C.1 C.2.1 dX1_total_12 hl (by decide) rfl (fun ls hl => ?_)
  replace hl : lv_has ls 5 [(4, .int (nI 0)), (3, .int (nI (S ^ n))), (1, .long (lN 0)), (0, .ref (am 0))] := hl
  have lp14 : ∀ (mq0 : Nat) (i : Nat) (wv : Nat → Nat), S ^ n - i = mq0 → (i ≤ S ^ n) → ∀ (ls : Array Slot) (H : Heap) (locs : List Loc), lv_has ls 5 [(4, .int (nI i)), (3, .int (nI (S ^ n))), (1, .long (lN (ms_sum (fun z1 => ms_wt (me w ro) S n z1) i))), (0, .ref (am 0))] → xt_W D A ss.heap (xM am cI cL S K n iz dz tp bt w ro wv ch al fr) H locs → W pg l ev (xt_R 2) ss mi args below meth cd H locs 0 0 Q (F0 mi 14 ls []) := by
    intro mq0
    induction mq0 using Nat.strongRecOn with
    | _ mq0 ih14 =>
      intro i wv hq14 hi ls H locs hl hW
      refine lv_iload C.1 C.2.1 dX1_total_14 (lv_at hl 0 rfl) ?_
      refine lv_iload_n C.1 C.2.1 dX1_total_16 rfl (lv_at hl 1 rfl) ?_
      refine xt_icmp_ge C (by omega) (by omega) dX1_total_17 (tgt := 35) (by decide) (fun h17 => ?_) (fun h17 => ?_)
      · refine lv_lload_n C.1 C.2.1 dX1_total_35 rfl (lv_at hl 2 rfl) ?_
        exact xt_lret C hE wv hW (by show lN (ms_sum _ i) = lN _; rw [show i = S ^ n by omega]) dX1_total_36
      · refine lv_lload_n C.1 C.2.1 dX1_total_20 rfl (lv_at hl 2 rfl) ?_
        refine lv_aload_n C.1 C.2.1 dX1_total_21 rfl (lv_at hl 3 rfl) ?_
        refine lv_iload C.1 C.2.1 dX1_total_22 (lv_at hl 0 rfl) ?_
        refine xt_cl hA hW (xt_runV C hW.1 hW.2.1 cwX1_X1_weightOf (cm_weightOf l D cI cL am S K n iz dz tp bt w ro wv ch al fr i (hV2) (by omega)) rfl rfl rfl hl.1 (rest := [.long (lN (ms_sum (fun z1 => ms_wt (me w ro) S n z1) i))]) rfl (Nat.le_of_ble_eq_true rfl) ⟨(Nat.le_of_ble_eq_true rfl), (Nat.le_of_ble_eq_true rfl)⟩ ⟨Nat.zero_le _, Nat.zero_le _⟩ dX1_total_24) (fun r24 u H locs hp24 hW => ?_)
        obtain ⟨wa_24, rfl⟩ : ∃ z, z = u := ⟨_, rfl⟩
        replace hW : xt_W D A ss.heap (xM am cI cL S K n iz dz tp bt w ro wa_24 ch al fr) H locs := hW
        replace hp24 : r24 = lN (ms_wt (me w ro) S n i) ∧ ∀ z1, z1 < n → wa_24 z1 = ms_dg S n i z1 := hp24
        obtain ⟨rfl, hp24⟩ := hp24
        refine xt_ladd C dX1_total_27 ?_
        refine lv_lstore_n C.1 C.2.1 dX1_total_28 rfl hl (by decide) rfl (fun ls hl => ?_)
        replace hl : lv_has ls 5 [(1, .long (lN ((ms_sum (fun z1 => ms_wt (me w ro) S n z1) i) + (ms_wt (me w ro) S n i)))), (4, .int (nI i)), (3, .int (nI (S ^ n))), (0, .ref (am 0))] := hl
        refine lv_iinc (k := 1) C.1 C.2.1 dX1_total_29 hl rfl xt_inc (by decide) rfl (fun ls hl => ?_)
        replace hl : lv_has ls 5 [(4, .int (nI (i + 1))), (1, .long (lN ((ms_sum (fun z1 => ms_wt (me w ro) S n z1) i) + (ms_wt (me w ro) S n i)))), (3, .int (nI (S ^ n))), (0, .ref (am 0))] := hl
        refine lv_goto C.1 C.2.1 dX1_total_32 (tgt := 14) (by decide) ?_
        exact ih14 _ (by omega) (i + 1) wa_24 rfl (by omega) ls _ _ (lv_sub hl [0, 2, 1, 3] rfl) hW
  exact lp14 _ 0 wa rfl (Nat.zero_le _) ls _ _ (lv_sub hl [0, 1, 2, 3] rfl) hW
set_option maxHeartbeats 4000000 in
set_option maxRecDepth 100000 in
theorem cm_before_y (l : Launch) (D : va_G) (cI cL : ClassId) (am : Nat → Nat) (S K n iz dz tp bt : Nat) (w ro wa ch al fr : Nat → Nat) (p : Nat) (q : Nat) (hV : mq_V S K n w ro) (hpn : p < n) (hqS : q < S) : xt_M l yX1_before cX1_before 7 (some .long) 1 D cI cL [.ref (am 0), .int (nI p), .int (nI q)] (xM am cI cL S K n iz dz tp bt w ro wa ch al fr) (xt_Ql D cI cL (xM am cI cL S K n iz dz tp bt w ro wa ch al fr) (fun (r : Int64) (u : (Nat → Nat)) => r = lN (ms_bf (me w ro) S p q)) (fun u => xM am cI cL S K n iz dz tp bt w ro u ch al fr)) := by
  obtain ⟨hS0, hS3, hK0, hK4, hn6, hw, hsK⟩ := hV
  have hsy : ∀ p, p < n → ro p < 4 := fun p h => Nat.lt_of_lt_of_le (hsK p h) hK4
  have hpb := ms_pow_le hS3 (show p ≤ 6 by omega)
  refine xt_start (own := RX1) rfl (by decide) (Nat.le_of_ble_eq_true rfl) (fun pg ev ss mi args below meth cd A Q ls C hE hA hl hW => ?_)
  replace hl : lv_has ls 7 [(0, .ref (am 0)), (1, .int (nI p)), (2, .int (nI q))] := hl
  refine lv_iload_n C.1 C.2.1 dX1_before_0 rfl (lv_at hl 1 rfl) ?_
  refine xt_if_lt C (by omega) dX1_before_1 (tgt := 20) (by decide) ?_
  refine lv_iload_n C.1 C.2.1 dX1_before_4 rfl (lv_at hl 1 rfl) ?_
  refine lv_aload_n C.1 C.2.1 dX1_before_5 rfl (lv_at hl 0 rfl) ?_
  refine xt_get xt_inX1 C hW 0 rfl rfl 3 (by decide) rfl flX1_n rfl dX1_before_6 ?_
  refine xt_icmp_ge C (by omega) (by omega) dX1_before_9 (tgt := 20) (by decide) (fun h9 => ?_) (fun h9 => ?_)
  · exfalso
    omega
  · refine lv_aload_n C.1 C.2.1 dX1_before_12 rfl (lv_at hl 0 rfl) ?_
    refine lv_iload_n C.1 C.2.1 dX1_before_13 rfl (lv_at hl 2 rfl) ?_
    refine xt_ci hA hW (xt_runV C hW.1 hW.2.1 cwX1_X1_state (cm_state l D cI cL am S K n iz dz tp bt w ro wa ch al fr (nI q) (by omega)) rfl rfl rfl hl.1 (rest := []) rfl (Nat.le_of_ble_eq_true rfl) ⟨(Nat.le_of_ble_eq_true rfl), (Nat.le_of_ble_eq_true rfl)⟩ ⟨Nat.zero_le _, Nat.zero_le _⟩ dX1_before_14) (fun r14 u H locs hp14 hW => ?_)
    replace hW : xt_W D A ss.heap (xM am cI cL S K n iz dz tp bt w ro wa ch al fr) H locs := hW
    replace hp14 : (r14 = nI 1 ∧ ∃ z1, z1 < S ∧ (nI q) = nI z1) ∨ (r14 = nI 0 ∧ ¬ ∃ z1, z1 < S ∧ (nI q) = nI z1) := hp14
    rcases hp14 with ⟨rfl, -⟩ | ⟨-, hno⟩
    · replace hl : lv_has ls 7 [(0, .ref (am 0)), (1, .int (nI p)), (2, .int (nI q))] := hl
      refine xt_if_ne C (by omega) dX1_before_17 (tgt := 22) (by decide) (fun h17 => ?_) (fun h17 => ?_)
      · refine xt_lconst C 0 dX1_before_22 (by decide +kernel) ?_
        refine lv_lstore_n C.1 C.2.1 dX1_before_23 rfl hl (by decide) rfl (fun ls hl => ?_)
        replace hl : lv_has ls 7 [(3, .long (lN 0)), (0, .ref (am 0)), (1, .int (nI p)), (2, .int (nI q))] := hl
        refine lv_aload_n C.1 C.2.1 dX1_before_24 rfl (lv_at hl 1 rfl) ?_
        refine lv_iload_n C.1 C.2.1 dX1_before_25 rfl (lv_at hl 2 rfl) ?_
        refine xt_ci hA hW (xt_runV C hW.1 hW.2.1 cwX1_X1_power (cm_power l D cI cL am S K n iz dz tp bt w ro wa ch al fr p (by omega)) rfl rfl rfl hl.1 (rest := []) rfl (Nat.le_of_ble_eq_true rfl) ⟨(Nat.le_of_ble_eq_true rfl), (Nat.le_of_ble_eq_true rfl)⟩ ⟨Nat.zero_le _, Nat.zero_le _⟩ dX1_before_26) (fun r26 u H locs hp26 hW => ?_)
        replace hW : xt_W D A ss.heap (xM am cI cL S K n iz dz tp bt w ro wa ch al fr) H locs := hW
        subst hp26
        refine lv_istore C.1 C.2.1 dX1_before_29 hl (by decide) rfl (fun ls hl => ?_)
        replace hl : lv_has ls 7 [(5, .int (nI (S ^ p))), (3, .long (lN 0)), (0, .ref (am 0)), (1, .int (nI p)), (2, .int (nI q))] := hl
        refine xt_iconst C 0 dX1_before_31 (by decide +kernel) ?_
        refine lv_istore C.1 C.2.1 dX1_before_32 hl (by decide) rfl (fun ls hl => ?_)
        replace hl : lv_has ls 7 [(6, .int (nI 0)), (5, .int (nI (S ^ p))), (3, .long (lN 0)), (0, .ref (am 0)), (1, .int (nI p)), (2, .int (nI q))] := hl
        have lp34 : ∀ (mq0 : Nat) (i : Nat) (wv : Nat → Nat), S ^ p - i = mq0 → (i ≤ S ^ p) → ∀ (ls : Array Slot) (H : Heap) (locs : List Loc), lv_has ls 7 [(6, .int (nI i)), (5, .int (nI (S ^ p))), (3, .long (lN (ms_sum (fun z1 => ms_af (me w ro) S p z1 q) i))), (0, .ref (am 0)), (1, .int (nI p)), (2, .int (nI q))] → xt_W D A ss.heap (xM am cI cL S K n iz dz tp bt w ro wv ch al fr) H locs → W pg l ev (xt_R 1) ss mi args below meth cd H locs 0 0 Q (F0 mi 34 ls []) := by
          intro mq0
          induction mq0 using Nat.strongRecOn with
          | _ mq0 ih34 =>
            intro i wv hq34 hi ls H locs hl hW
            refine lv_iload C.1 C.2.1 dX1_before_34 (lv_at hl 0 rfl) ?_
            refine lv_iload C.1 C.2.1 dX1_before_36 (lv_at hl 1 rfl) ?_
            refine xt_icmp_ge C (by omega) (by omega) dX1_before_38 (tgt := 73) (by decide) (fun h38 => ?_) (fun h38 => ?_)
            · refine lv_lload_n C.1 C.2.1 dX1_before_73 rfl (lv_at hl 2 rfl) ?_
              exact xt_lret C hE wv hW (by show lN (ms_sum _ i) = lN _; rw [show i = S ^ p by omega, ms_bf_sum (me_0 w ro)]) dX1_before_74
            · refine lv_aload_n C.1 C.2.1 dX1_before_41 rfl (lv_at hl 3 rfl) ?_
              refine lv_iload C.1 C.2.1 dX1_before_42 (lv_at hl 0 rfl) ?_
              refine xt_iconst C 0 dX1_before_44 (by decide +kernel) ?_
              refine lv_iload_n C.1 C.2.1 dX1_before_45 rfl (lv_at hl 4 rfl) ?_
              refine xt_iconst C 1 dX1_before_46 (by decide +kernel) ?_
              refine lv_isub C.1 C.2.1 dX1_before_47 ?_
              refine xt_cvd hA hW (xt_runV C hW.1 hW.2.1 cwX1_X1_spell (cm_spell l D cI cL am S K n iz dz tp bt w ro wv ch al fr i 0 p (by omega) (by omega) (by omega) (by omega) (by omega)) rfl rfl rfl hl.1 (rest := []) rfl (Nat.le_of_ble_eq_true rfl) ⟨(Nat.le_of_ble_eq_true rfl), (Nat.le_of_ble_eq_true rfl)⟩ ⟨Nat.zero_le _, Nat.zero_le _⟩ dX1_before_48) (fun u H locs hp48 hW => ?_)
              obtain ⟨wa_48, rfl⟩ : ∃ z, z = u := ⟨_, rfl⟩
              replace hW : xt_W D A ss.heap (xM am cI cL S K n iz dz tp bt w ro wa_48 ch al fr) H locs := hW
              replace hp48 : (∀ z1, 0 ≤ z1 ∧ z1 < p → wa_48 z1 = i / S ^ (p - 1 - z1) % S) ∧ (∀ z1, ¬ (0 ≤ z1 ∧ z1 < p) → wa_48 z1 = wv z1) := hp48
              refine lv_aload_n C.1 C.2.1 dX1_before_51 rfl (lv_at hl 3 rfl) ?_
              refine xt_get xt_inX1 C hW 0 rfl rfl 5 (by decide) rfl flX1_way rfl dX1_before_52 ?_
              refine lv_iload_n C.1 C.2.1 dX1_before_55 rfl (lv_at hl 4 rfl) ?_
              refine lv_iload_n C.1 C.2.1 dX1_before_56 rfl (lv_at hl 5 rfl) ?_
              refine xt_iast C hW 3 rfl (by decide) dX1_before_57 (by omega) (fun H locs hW => ?_)
              replace hW : xt_W D A ss.heap (xM am cI cL S K n iz dz tp bt w ro (va_up wa_48 p q) ch al fr) H locs := hW
              refine W.eq (g2 := F0 mi 58 ls []) rfl ?_
              refine lv_lload_n C.1 C.2.1 dX1_before_58 rfl (lv_at hl 2 rfl) ?_
              refine lv_aload_n C.1 C.2.1 dX1_before_59 rfl (lv_at hl 3 rfl) ?_
              refine xt_iconst C 0 dX1_before_60 (by decide +kernel) ?_
              refine lv_iload_n C.1 C.2.1 dX1_before_61 rfl (lv_at hl 4 rfl) ?_
              refine xt_cl hA hW (xt_runV C hW.1 hW.2.1 cwX1_X1_product (cm_product_n l D cI cL am S K n iz dz tp bt w ro (va_up wa_48 p q) ch al fr 0 p (Nat.zero_le _) (by omega) (hw) (fun j hj _ => by by_cases c : j = p; (rw [c, xq_up]; omega); (rw [xq_un c, hp48.1 j ⟨Nat.zero_le _, by omega⟩]; exact Nat.lt_of_lt_of_le (Nat.mod_lt _ hS0) hS3)) (fun j hj => hsy j (by omega))) rfl rfl rfl hl.1 (rest := [.long (lN (ms_sum (fun z1 => ms_af (me w ro) S p z1 q) i))]) rfl (Nat.le_of_ble_eq_true rfl) ⟨(Nat.le_of_ble_eq_true rfl), (Nat.le_of_ble_eq_true rfl)⟩ ⟨Nat.zero_le _, Nat.zero_le _⟩ dX1_before_62) (fun r62 u H locs hp62 hW => ?_)
              replace hW : xt_W D A ss.heap (xM am cI cL S K n iz dz tp bt w ro (va_up wa_48 p q) ch al fr) H locs := hW
              subst hp62
              rw [mq_af (wa := wv) hp48.1]
              refine xt_ladd C dX1_before_65 ?_
              refine lv_lstore_n C.1 C.2.1 dX1_before_66 rfl hl (by decide) rfl (fun ls hl => ?_)
              replace hl : lv_has ls 7 [(3, .long (lN ((ms_sum (fun z1 => ms_af (me w ro) S p z1 q) i) + (ms_af (me w ro) S p i q)))), (6, .int (nI i)), (5, .int (nI (S ^ p))), (0, .ref (am 0)), (1, .int (nI p)), (2, .int (nI q))] := hl
              refine lv_iinc (k := 1) C.1 C.2.1 dX1_before_67 hl rfl xt_inc (by decide) rfl (fun ls hl => ?_)
              replace hl : lv_has ls 7 [(6, .int (nI (i + 1))), (3, .long (lN ((ms_sum (fun z1 => ms_af (me w ro) S p z1 q) i) + (ms_af (me w ro) S p i q)))), (5, .int (nI (S ^ p))), (0, .ref (am 0)), (1, .int (nI p)), (2, .int (nI q))] := hl
              refine lv_goto C.1 C.2.1 dX1_before_70 (tgt := 34) (by decide) ?_
              exact ih34 _ (by omega) (i + 1) (va_up wa_48 p q) rfl (by omega) ls _ _ (lv_sub hl [0, 2, 1, 3, 4, 5] rfl) hW
        exact lp34 _ 0 wa rfl (Nat.zero_le _) ls _ _ (lv_sub hl [0, 1, 2, 3, 4, 5] rfl) hW
      · exfalso
        omega
    · exact absurd (⟨q, by omega, rfl⟩) hno
set_option maxHeartbeats 4000000 in
set_option maxRecDepth 100000 in
theorem cm_before_n (l : Launch) (D : va_G) (cI cL : ClassId) (am : Nat → Nat) (S K n iz dz tp bt : Nat) (w ro wa ch al fr : Nat → Nat) (p : Int32) (q : Int32) (hV : mq_V S K n w ro) (hno : ¬ ((∃ j, j < n ∧ p = nI j) ∧ ∃ j, j < S ∧ q = nI j)) : xt_M l yX1_before cX1_before 7 (some .long) 1 D cI cL [.ref (am 0), .int p, .int q] (xM am cI cL S K n iz dz tp bt w ro wa ch al fr) (xt_Ql D cI cL (xM am cI cL S K n iz dz tp bt w ro wa ch al fr) (fun (r : Int64) (u : Unit) => r = lN 0) (fun u => xM am cI cL S K n iz dz tp bt w ro wa ch al fr)) := by
  obtain ⟨hS0, hS3, hK0, hK4, hn6, hw, hsK⟩ := hV
  have hsy : ∀ p, p < n → ro p < 4 := fun p h => Nat.lt_of_lt_of_le (hsK p h) hK4
  refine xt_start (own := RX1) rfl (by decide) (Nat.le_of_ble_eq_true rfl) (fun pg ev ss mi args below meth cd A Q ls C hE hA hl hW => ?_)
  replace hl : lv_has ls 7 [(0, .ref (am 0)), (1, .int p), (2, .int q)] := hl
  refine lv_iload_n C.1 C.2.1 dX1_before_0 rfl (lv_at hl 1 rfl) ?_
  refine lv_if_lt C.1 C.2.1 dX1_before_1 (tgt := 20) (by decide) (fun h1 => ?_) (fun h1 => ?_)
  · refine xt_lconst C 0 dX1_before_20 (by decide +kernel) ?_
    exact xt_lret C hE () hW (rfl) dX1_before_21
  · refine lv_iload_n C.1 C.2.1 dX1_before_4 rfl (lv_at hl 1 rfl) ?_
    refine lv_aload_n C.1 C.2.1 dX1_before_5 rfl (lv_at hl 0 rfl) ?_
    refine xt_get xt_inX1 C hW 0 rfl rfl 3 (by decide) rfl flX1_n rfl dX1_before_6 ?_
    refine lv_icmp_ge C.1 C.2.1 dX1_before_9 (tgt := 20) (by decide) (fun h9 => ?_) (fun h9 => ?_)
    · refine xt_lconst C 0 dX1_before_20 (by decide +kernel) ?_
      exact xt_lret C hE () hW (rfl) dX1_before_21
    · refine lv_aload_n C.1 C.2.1 dX1_before_12 rfl (lv_at hl 0 rfl) ?_
      refine lv_iload_n C.1 C.2.1 dX1_before_13 rfl (lv_at hl 2 rfl) ?_
      refine xt_ci hA hW (xt_runV C hW.1 hW.2.1 cwX1_X1_state (cm_state l D cI cL am S K n iz dz tp bt w ro wa ch al fr q (by omega)) rfl rfl rfl hl.1 (rest := []) rfl (Nat.le_of_ble_eq_true rfl) ⟨(Nat.le_of_ble_eq_true rfl), (Nat.le_of_ble_eq_true rfl)⟩ ⟨Nat.zero_le _, Nat.zero_le _⟩ dX1_before_14) (fun r14 u H locs hp14 hW => ?_)
      replace hW : xt_W D A ss.heap (xM am cI cL S K n iz dz tp bt w ro wa ch al fr) H locs := hW
      replace hp14 : (r14 = nI 1 ∧ ∃ z1, z1 < S ∧ q = nI z1) ∨ (r14 = nI 0 ∧ ¬ ∃ z1, z1 < S ∧ q = nI z1) := hp14
      rcases hp14 with ⟨-, hz⟩ | ⟨rfl, -⟩
      · exact absurd (⟨xq_yes (by omega) h1 h9, hz⟩) hno
      · replace hl : lv_has ls 7 [(0, .ref (am 0)), (1, .int p), (2, .int q)] := hl
        refine xt_if_ne C (by omega) dX1_before_17 (tgt := 22) (by decide) (fun h17 => ?_) (fun h17 => ?_)
        · exfalso
          omega
        · refine xt_lconst C 0 dX1_before_20 (by decide +kernel) ?_
          exact xt_lret C hE () hW (rfl) dX1_before_21
set_option maxHeartbeats 4000000 in
set_option maxRecDepth 100000 in
theorem cm_behind_y (l : Launch) (D : va_G) (cI cL : ClassId) (am : Nat → Nat) (S K n iz dz tp bt : Nat) (w ro wa ch al fr : Nat → Nat) (p : Nat) (q : Nat) (hV : mq_V S K n w ro) (hpn : p < n) (hqS : q < S) : xt_M l yX1_behind cX1_behind 7 (some .long) 1 D cI cL [.ref (am 0), .int (nI p), .int (nI q)] (xM am cI cL S K n iz dz tp bt w ro wa ch al fr) (xt_Ql D cI cL (xM am cI cL S K n iz dz tp bt w ro wa ch al fr) (fun (r : Int64) (u : (Nat → Nat)) => r = lN (ms_bh (me w ro) S n (n - 1 - p) q)) (fun u => xM am cI cL S K n iz dz tp bt w ro u ch al fr)) := by
  obtain ⟨hS0, hS3, hK0, hK4, hn6, hw, hsK⟩ := hV
  have hsy : ∀ p, p < n → ro p < 4 := fun p h => Nat.lt_of_lt_of_le (hsK p h) hK4
  have hpb := ms_pow_le hS3 (show n - 1 - p ≤ 6 by omega)
  refine xt_start (own := RX1) rfl (by decide) (Nat.le_of_ble_eq_true rfl) (fun pg ev ss mi args below meth cd A Q ls C hE hA hl hW => ?_)
  replace hl : lv_has ls 7 [(0, .ref (am 0)), (1, .int (nI p)), (2, .int (nI q))] := hl
  refine lv_iload_n C.1 C.2.1 dX1_behind_0 rfl (lv_at hl 1 rfl) ?_
  refine xt_if_lt C (by omega) dX1_behind_1 (tgt := 20) (by decide) ?_
  refine lv_iload_n C.1 C.2.1 dX1_behind_4 rfl (lv_at hl 1 rfl) ?_
  refine lv_aload_n C.1 C.2.1 dX1_behind_5 rfl (lv_at hl 0 rfl) ?_
  refine xt_get xt_inX1 C hW 0 rfl rfl 3 (by decide) rfl flX1_n rfl dX1_behind_6 ?_
  refine xt_icmp_ge C (by omega) (by omega) dX1_behind_9 (tgt := 20) (by decide) (fun h9 => ?_) (fun h9 => ?_)
  · exfalso
    omega
  · refine lv_aload_n C.1 C.2.1 dX1_behind_12 rfl (lv_at hl 0 rfl) ?_
    refine lv_iload_n C.1 C.2.1 dX1_behind_13 rfl (lv_at hl 2 rfl) ?_
    refine xt_ci hA hW (xt_runV C hW.1 hW.2.1 cwX1_X1_state (cm_state l D cI cL am S K n iz dz tp bt w ro wa ch al fr (nI q) (by omega)) rfl rfl rfl hl.1 (rest := []) rfl (Nat.le_of_ble_eq_true rfl) ⟨(Nat.le_of_ble_eq_true rfl), (Nat.le_of_ble_eq_true rfl)⟩ ⟨Nat.zero_le _, Nat.zero_le _⟩ dX1_behind_14) (fun r14 u H locs hp14 hW => ?_)
    replace hW : xt_W D A ss.heap (xM am cI cL S K n iz dz tp bt w ro wa ch al fr) H locs := hW
    replace hp14 : (r14 = nI 1 ∧ ∃ z1, z1 < S ∧ (nI q) = nI z1) ∨ (r14 = nI 0 ∧ ¬ ∃ z1, z1 < S ∧ (nI q) = nI z1) := hp14
    rcases hp14 with ⟨rfl, -⟩ | ⟨-, hno⟩
    · replace hl : lv_has ls 7 [(0, .ref (am 0)), (1, .int (nI p)), (2, .int (nI q))] := hl
      refine xt_if_ne C (by omega) dX1_behind_17 (tgt := 22) (by decide) (fun h17 => ?_) (fun h17 => ?_)
      · refine xt_lconst C 0 dX1_behind_22 (by decide +kernel) ?_
        refine lv_lstore_n C.1 C.2.1 dX1_behind_23 rfl hl (by decide) rfl (fun ls hl => ?_)
        replace hl : lv_has ls 7 [(3, .long (lN 0)), (0, .ref (am 0)), (1, .int (nI p)), (2, .int (nI q))] := hl
        refine lv_aload_n C.1 C.2.1 dX1_behind_24 rfl (lv_at hl 1 rfl) ?_
        refine lv_aload_n C.1 C.2.1 dX1_behind_25 rfl (lv_at hl 1 rfl) ?_
        refine xt_get xt_inX1 C hW 0 rfl rfl 3 (by decide) rfl flX1_n rfl dX1_behind_26 ?_
        refine xt_iconst C 1 dX1_behind_29 (by decide +kernel) ?_
        refine xt_isub C dX1_behind_30 (by omega) ?_
        refine lv_iload_n C.1 C.2.1 dX1_behind_31 rfl (lv_at hl 2 rfl) ?_
        refine xt_isub C dX1_behind_32 (by omega) ?_
        refine xt_ci hA hW (xt_runV C hW.1 hW.2.1 cwX1_X1_power (cm_power l D cI cL am S K n iz dz tp bt w ro wa ch al fr ((n - 1) - p) (by omega)) rfl rfl rfl hl.1 (rest := []) rfl (Nat.le_of_ble_eq_true rfl) ⟨(Nat.le_of_ble_eq_true rfl), (Nat.le_of_ble_eq_true rfl)⟩ ⟨Nat.zero_le _, Nat.zero_le _⟩ dX1_behind_33) (fun r33 u H locs hp33 hW => ?_)
        replace hW : xt_W D A ss.heap (xM am cI cL S K n iz dz tp bt w ro wa ch al fr) H locs := hW
        subst hp33
        refine lv_istore C.1 C.2.1 dX1_behind_36 hl (by decide) rfl (fun ls hl => ?_)
        replace hl : lv_has ls 7 [(5, .int (nI (S ^ ((n - 1) - p)))), (3, .long (lN 0)), (0, .ref (am 0)), (1, .int (nI p)), (2, .int (nI q))] := hl
        refine xt_iconst C 0 dX1_behind_38 (by decide +kernel) ?_
        refine W.eq (g2 := F0 mi 39 ls [.int (nI 0)]) rfl ?_
        refine lv_istore C.1 C.2.1 dX1_behind_39 hl (by decide) rfl (fun ls hl => ?_)
        replace hl : lv_has ls 7 [(6, .int (nI 0)), (5, .int (nI (S ^ ((n - 1) - p)))), (3, .long (lN 0)), (0, .ref (am 0)), (1, .int (nI p)), (2, .int (nI q))] := hl
        have lp41 : ∀ (mq0 : Nat) (i : Nat) (wv : Nat → Nat), S ^ (n - 1 - p) - i = mq0 → (i ≤ S ^ (n - 1 - p)) → ∀ (ls : Array Slot) (H : Heap) (locs : List Loc), lv_has ls 7 [(6, .int (nI i)), (5, .int (nI (S ^ (n - 1 - p)))), (3, .long (lN (ms_sum (fun z1 => ms_bg (me w ro) S n p q z1) i))), (0, .ref (am 0)), (1, .int (nI p)), (2, .int (nI q))] → xt_W D A ss.heap (xM am cI cL S K n iz dz tp bt w ro wv ch al fr) H locs → W pg l ev (xt_R 1) ss mi args below meth cd H locs 0 0 Q (F0 mi 41 ls []) := by
          intro mq0
          induction mq0 using Nat.strongRecOn with
          | _ mq0 ih41 =>
            intro i wv hq41 hi ls H locs hl hW
            refine lv_iload C.1 C.2.1 dX1_behind_41 (lv_at hl 0 rfl) ?_
            refine lv_iload C.1 C.2.1 dX1_behind_43 (lv_at hl 1 rfl) ?_
            refine xt_icmp_ge C (by omega) (by omega) dX1_behind_45 (tgt := 92) (by decide) (fun h45 => ?_) (fun h45 => ?_)
            · refine lv_lload_n C.1 C.2.1 dX1_behind_92 rfl (lv_at hl 2 rfl) ?_
              exact xt_lret C hE wv hW (by show lN (ms_sum _ i) = lN _; rw [show i = S ^ (n - 1 - p) by omega, ms_bh_sum (n - 1 - p) p q rfl (Or.inr hpn)]) dX1_behind_93
            · refine lv_aload_n C.1 C.2.1 dX1_behind_48 rfl (lv_at hl 3 rfl) ?_
              refine lv_iload C.1 C.2.1 dX1_behind_49 (lv_at hl 0 rfl) ?_
              refine lv_iload_n C.1 C.2.1 dX1_behind_51 rfl (lv_at hl 4 rfl) ?_
              refine xt_iconst C 1 dX1_behind_52 (by decide +kernel) ?_
              refine xt_iadd C dX1_behind_53 ?_
              refine lv_aload_n C.1 C.2.1 dX1_behind_54 rfl (lv_at hl 3 rfl) ?_
              refine xt_get xt_inX1 C hW 0 rfl rfl 3 (by decide) rfl flX1_n rfl dX1_behind_55 ?_
              refine xt_iconst C 1 dX1_behind_58 (by decide +kernel) ?_
              refine lv_isub C.1 C.2.1 dX1_behind_59 ?_
              refine xt_cvd hA hW (xt_runV C hW.1 hW.2.1 cwX1_X1_spell (cm_spell l D cI cL am S K n iz dz tp bt w ro wv ch al fr i (p + 1) n (by omega) (by omega) (by omega) (by omega) (by omega)) rfl rfl rfl hl.1 (rest := []) rfl (Nat.le_of_ble_eq_true rfl) ⟨(Nat.le_of_ble_eq_true rfl), (Nat.le_of_ble_eq_true rfl)⟩ ⟨Nat.zero_le _, Nat.zero_le _⟩ dX1_behind_60) (fun u H locs hp60 hW => ?_)
              obtain ⟨wa_60, rfl⟩ : ∃ z, z = u := ⟨_, rfl⟩
              replace hW : xt_W D A ss.heap (xM am cI cL S K n iz dz tp bt w ro wa_60 ch al fr) H locs := hW
              replace hp60 : (∀ z1, (p + 1) ≤ z1 ∧ z1 < n → wa_60 z1 = i / S ^ (n - 1 - z1) % S) ∧ (∀ z1, ¬ ((p + 1) ≤ z1 ∧ z1 < n) → wa_60 z1 = wv z1) := hp60
              refine lv_aload_n C.1 C.2.1 dX1_behind_63 rfl (lv_at hl 3 rfl) ?_
              refine xt_get xt_inX1 C hW 0 rfl rfl 5 (by decide) rfl flX1_way rfl dX1_behind_64 ?_
              refine W.eq (g2 := F0 mi 67 ls [.ref (am 3)]) rfl ?_
              refine lv_iload_n C.1 C.2.1 dX1_behind_67 rfl (lv_at hl 4 rfl) ?_
              refine lv_iload_n C.1 C.2.1 dX1_behind_68 rfl (lv_at hl 5 rfl) ?_
              refine xt_iast C hW 3 rfl (by decide) dX1_behind_69 (by omega) (fun H locs hW => ?_)
              replace hW : xt_W D A ss.heap (xM am cI cL S K n iz dz tp bt w ro (va_up wa_60 p q) ch al fr) H locs := hW
              refine lv_lload_n C.1 C.2.1 dX1_behind_70 rfl (lv_at hl 2 rfl) ?_
              refine lv_aload_n C.1 C.2.1 dX1_behind_71 rfl (lv_at hl 3 rfl) ?_
              refine lv_iload_n C.1 C.2.1 dX1_behind_72 rfl (lv_at hl 4 rfl) ?_
              refine xt_iconst C 1 dX1_behind_73 (by decide +kernel) ?_
              refine xt_iadd C dX1_behind_74 ?_
              refine lv_aload_n C.1 C.2.1 dX1_behind_75 rfl (lv_at hl 3 rfl) ?_
              refine xt_get xt_inX1 C hW 0 rfl rfl 3 (by decide) rfl flX1_n rfl dX1_behind_76 ?_
              refine xt_iconst C 1 dX1_behind_79 (by decide +kernel) ?_
              refine lv_isub C.1 C.2.1 dX1_behind_80 ?_
              refine W.eq (g2 := F0 mi 81 ls [.int (nI n - nI 1), .int (nI (p + 1)), .ref (am 0), .long (lN (ms_sum (fun z1 => ms_bg (me w ro) S n p q z1) i))]) rfl ?_
              refine xt_cl hA hW (xt_runV C hW.1 hW.2.1 cwX1_X1_product (cm_product l D cI cL am S K n iz dz tp bt w ro (va_up wa_60 p q) ch al fr (p + 1) n (by omega) (by omega) (hw) (fun j hj hj2 => by by_cases c : j = p; (rw [c, xq_up]; omega); (rw [xq_un c, hp60.1 j ⟨by omega, hj⟩]; exact Nat.lt_of_lt_of_le (Nat.mod_lt _ hS0) hS3)) (hsy)) rfl rfl rfl hl.1 (rest := [.long (lN (ms_sum (fun z1 => ms_bg (me w ro) S n p q z1) i))]) rfl (Nat.le_of_ble_eq_true rfl) ⟨(Nat.le_of_ble_eq_true rfl), (Nat.le_of_ble_eq_true rfl)⟩ ⟨Nat.zero_le _, Nat.zero_le _⟩ dX1_behind_81) (fun r81 u H locs hp81 hW => ?_)
              replace hW : xt_W D A ss.heap (xM am cI cL S K n iz dz tp bt w ro (va_up wa_60 p q) ch al fr) H locs := hW
              subst hp81
              rw [mq_bg (wa := wv) hpn hp60.1]
              refine xt_ladd C dX1_behind_84 ?_
              refine lv_lstore_n C.1 C.2.1 dX1_behind_85 rfl hl (by decide) rfl (fun ls hl => ?_)
              replace hl : lv_has ls 7 [(3, .long (lN ((ms_sum (fun z1 => ms_bg (me w ro) S n p q z1) i) + (ms_bg (me w ro) S n p q i)))), (6, .int (nI i)), (5, .int (nI (S ^ (n - 1 - p)))), (0, .ref (am 0)), (1, .int (nI p)), (2, .int (nI q))] := hl
              refine lv_iinc (k := 1) C.1 C.2.1 dX1_behind_86 hl rfl xt_inc (by decide) rfl (fun ls hl => ?_)
              replace hl : lv_has ls 7 [(6, .int (nI (i + 1))), (3, .long (lN ((ms_sum (fun z1 => ms_bg (me w ro) S n p q z1) i) + (ms_bg (me w ro) S n p q i)))), (5, .int (nI (S ^ (n - 1 - p)))), (0, .ref (am 0)), (1, .int (nI p)), (2, .int (nI q))] := hl
              refine lv_goto C.1 C.2.1 dX1_behind_89 (tgt := 41) (by decide) ?_
              exact ih41 _ (by omega) (i + 1) (va_up wa_60 p q) rfl (by omega) ls _ _ (lv_sub hl [0, 2, 1, 3, 4, 5] rfl) hW
        exact lp41 _ 0 wa rfl (Nat.zero_le _) ls _ _ (lv_sub hl [0, 1, 2, 3, 4, 5] rfl) hW
      · exfalso
        omega
    · exact absurd (⟨q, by omega, rfl⟩) hno
set_option maxHeartbeats 4000000 in
set_option maxRecDepth 100000 in
theorem cm_behind_n (l : Launch) (D : va_G) (cI cL : ClassId) (am : Nat → Nat) (S K n iz dz tp bt : Nat) (w ro wa ch al fr : Nat → Nat) (p : Int32) (q : Int32) (hV : mq_V S K n w ro) (hno : ¬ ((∃ j, j < n ∧ p = nI j) ∧ ∃ j, j < S ∧ q = nI j)) : xt_M l yX1_behind cX1_behind 7 (some .long) 1 D cI cL [.ref (am 0), .int p, .int q] (xM am cI cL S K n iz dz tp bt w ro wa ch al fr) (xt_Ql D cI cL (xM am cI cL S K n iz dz tp bt w ro wa ch al fr) (fun (r : Int64) (u : Unit) => r = lN 0) (fun u => xM am cI cL S K n iz dz tp bt w ro wa ch al fr)) := by
  obtain ⟨hS0, hS3, hK0, hK4, hn6, hw, hsK⟩ := hV
  have hsy : ∀ p, p < n → ro p < 4 := fun p h => Nat.lt_of_lt_of_le (hsK p h) hK4
  refine xt_start (own := RX1) rfl (by decide) (Nat.le_of_ble_eq_true rfl) (fun pg ev ss mi args below meth cd A Q ls C hE hA hl hW => ?_)
  replace hl : lv_has ls 7 [(0, .ref (am 0)), (1, .int p), (2, .int q)] := hl
  refine lv_iload_n C.1 C.2.1 dX1_behind_0 rfl (lv_at hl 1 rfl) ?_
  refine lv_if_lt C.1 C.2.1 dX1_behind_1 (tgt := 20) (by decide) (fun h1 => ?_) (fun h1 => ?_)
  · refine xt_lconst C 0 dX1_behind_20 (by decide +kernel) ?_
    exact xt_lret C hE () hW (rfl) dX1_behind_21
  · refine lv_iload_n C.1 C.2.1 dX1_behind_4 rfl (lv_at hl 1 rfl) ?_
    refine lv_aload_n C.1 C.2.1 dX1_behind_5 rfl (lv_at hl 0 rfl) ?_
    refine xt_get xt_inX1 C hW 0 rfl rfl 3 (by decide) rfl flX1_n rfl dX1_behind_6 ?_
    refine lv_icmp_ge C.1 C.2.1 dX1_behind_9 (tgt := 20) (by decide) (fun h9 => ?_) (fun h9 => ?_)
    · refine xt_lconst C 0 dX1_behind_20 (by decide +kernel) ?_
      exact xt_lret C hE () hW (rfl) dX1_behind_21
    · refine lv_aload_n C.1 C.2.1 dX1_behind_12 rfl (lv_at hl 0 rfl) ?_
      refine lv_iload_n C.1 C.2.1 dX1_behind_13 rfl (lv_at hl 2 rfl) ?_
      refine xt_ci hA hW (xt_runV C hW.1 hW.2.1 cwX1_X1_state (cm_state l D cI cL am S K n iz dz tp bt w ro wa ch al fr q (by omega)) rfl rfl rfl hl.1 (rest := []) rfl (Nat.le_of_ble_eq_true rfl) ⟨(Nat.le_of_ble_eq_true rfl), (Nat.le_of_ble_eq_true rfl)⟩ ⟨Nat.zero_le _, Nat.zero_le _⟩ dX1_behind_14) (fun r14 u H locs hp14 hW => ?_)
      replace hW : xt_W D A ss.heap (xM am cI cL S K n iz dz tp bt w ro wa ch al fr) H locs := hW
      replace hp14 : (r14 = nI 1 ∧ ∃ z1, z1 < S ∧ q = nI z1) ∨ (r14 = nI 0 ∧ ¬ ∃ z1, z1 < S ∧ q = nI z1) := hp14
      rcases hp14 with ⟨-, hz⟩ | ⟨rfl, -⟩
      · exact absurd (⟨xq_yes (by omega) h1 h9, hz⟩) hno
      · replace hl : lv_has ls 7 [(0, .ref (am 0)), (1, .int p), (2, .int q)] := hl
        refine xt_if_ne C (by omega) dX1_behind_17 (tgt := 22) (by decide) (fun h17 => ?_) (fun h17 => ?_)
        · exfalso
          omega
        · refine xt_lconst C 0 dX1_behind_20 (by decide +kernel) ?_
          exact xt_lret C hE () hW (rfl) dX1_behind_21
set_option maxHeartbeats 4000000 in
set_option maxRecDepth 100000 in
theorem cm_ways (l : Launch) (D : va_G) (cI cL : ClassId) (am : Nat → Nat) (S K n iz dz tp bt : Nat) (w ro wa ch al fr : Nat → Nat) (hV : mq_V S K n w ro) : xt_M l yX1_ways cX1_ways 4 (some .int) 2 D cI cL [.ref (am 0)] (xM am cI cL S K n iz dz tp bt w ro wa ch al fr) (xt_Qi D cI cL (xM am cI cL S K n iz dz tp bt w ro wa ch al fr) (fun (r : Int32) (u : (Nat → Nat)) => r = nI (ms_cnt (ms_wt (me w ro) S n) (S ^ n))) (fun u => xM am cI cL S K n iz dz tp bt w ro u ch al fr)) := by
  have hV2 := hV
  obtain ⟨hS0, hS3, hK0, hK4, hn6, hw, hsK⟩ := hV
  have hsy : ∀ p, p < n → ro p < 4 := fun p h => Nat.lt_of_lt_of_le (hsK p h) hK4
  have hpb := ms_pow_le hS3 hn6
  refine xt_start (own := RX1) rfl (by decide) (Nat.le_of_ble_eq_true rfl) (fun pg ev ss mi args below meth cd A Q ls C hE hA hl hW => ?_)
  replace hl : lv_has ls 4 [(0, .ref (am 0))] := hl
  refine xt_iconst C 0 dX1_ways_0 (by decide +kernel) ?_
  refine lv_istore_n C.1 C.2.1 dX1_ways_1 rfl hl (by decide) rfl (fun ls hl => ?_)
  replace hl : lv_has ls 4 [(1, .int (nI 0)), (0, .ref (am 0))] := hl
  refine lv_aload_n C.1 C.2.1 dX1_ways_2 rfl (lv_at hl 1 rfl) ?_
  refine lv_aload_n C.1 C.2.1 dX1_ways_3 rfl (lv_at hl 1 rfl) ?_
  refine xt_get xt_inX1 C hW 0 rfl rfl 3 (by decide) rfl flX1_n rfl dX1_ways_4 ?_
  refine xt_ci hA hW (xt_runV C hW.1 hW.2.1 cwX1_X1_power (cm_power l D cI cL am S K n iz dz tp bt w ro wa ch al fr n (by omega)) rfl rfl rfl hl.1 (rest := []) rfl (Nat.le_of_ble_eq_true rfl) ⟨(Nat.le_of_ble_eq_true rfl), (Nat.le_of_ble_eq_true rfl)⟩ ⟨Nat.zero_le _, Nat.zero_le _⟩ dX1_ways_7) (fun r7 u H locs hp7 hW => ?_)
  replace hW : xt_W D A ss.heap (xM am cI cL S K n iz dz tp bt w ro wa ch al fr) H locs := hW
  subst hp7
  refine lv_istore_n C.1 C.2.1 dX1_ways_10 rfl hl (by decide) rfl (fun ls hl => ?_)
  replace hl : lv_has ls 4 [(2, .int (nI (S ^ n))), (1, .int (nI 0)), (0, .ref (am 0))] := hl
  refine xt_iconst C 0 dX1_ways_11 (by decide +kernel) ?_
  refine lv_istore_n C.1 C.2.1 dX1_ways_12 rfl hl (by decide) rfl (fun ls hl => ?_)
  replace hl : lv_has ls 4 [(3, .int (nI 0)), (2, .int (nI (S ^ n))), (1, .int (nI 0)), (0, .ref (am 0))] := hl
  have lp13 : ∀ (mq0 : Nat) (i : Nat) (wv : Nat → Nat), S ^ n - i = mq0 → (i ≤ S ^ n) → ∀ (ls : Array Slot) (H : Heap) (locs : List Loc), lv_has ls 4 [(3, .int (nI i)), (2, .int (nI (S ^ n))), (1, .int (nI (ms_cnt (ms_wt (me w ro) S n) i))), (0, .ref (am 0))] → xt_W D A ss.heap (xM am cI cL S K n iz dz tp bt w ro wv ch al fr) H locs → W pg l ev (xt_R 2) ss mi args below meth cd H locs 0 0 Q (F0 mi 13 ls []) := by
    intro mq0
    induction mq0 using Nat.strongRecOn with
    | _ mq0 ih13 =>
      intro i wv hq13 hi ls H locs hl hW
      refine lv_iload_n C.1 C.2.1 dX1_ways_13 rfl (lv_at hl 0 rfl) ?_
      refine lv_iload_n C.1 C.2.1 dX1_ways_14 rfl (lv_at hl 1 rfl) ?_
      refine xt_icmp_ge C (by omega) (by omega) dX1_ways_15 (tgt := 42) (by decide) (fun h15 => ?_) (fun h15 => ?_)
      · refine lv_iload_n C.1 C.2.1 dX1_ways_42 rfl (lv_at hl 2 rfl) ?_
        exact xt_iret C hE wv hW (by show nI (ms_cnt _ i) = nI _; rw [show i = S ^ n by omega]) dX1_ways_43
      · refine lv_aload_n C.1 C.2.1 dX1_ways_18 rfl (lv_at hl 3 rfl) ?_
        refine lv_iload_n C.1 C.2.1 dX1_ways_19 rfl (lv_at hl 0 rfl) ?_
        refine xt_cl hA hW (xt_runV C hW.1 hW.2.1 cwX1_X1_weightOf (cm_weightOf l D cI cL am S K n iz dz tp bt w ro wv ch al fr i (hV2) (by omega)) rfl rfl rfl hl.1 (rest := []) rfl (Nat.le_of_ble_eq_true rfl) ⟨(Nat.le_of_ble_eq_true rfl), (Nat.le_of_ble_eq_true rfl)⟩ ⟨Nat.zero_le _, Nat.zero_le _⟩ dX1_ways_20) (fun r20 u H locs hp20 hW => ?_)
        obtain ⟨wa_20, rfl⟩ : ∃ z, z = u := ⟨_, rfl⟩
        replace hW : xt_W D A ss.heap (xM am cI cL S K n iz dz tp bt w ro wa_20 ch al fr) H locs := hW
        replace hp20 : r20 = lN (ms_wt (me w ro) S n i) ∧ ∀ z1, z1 < n → wa_20 z1 = ms_dg S n i z1 := hp20
        obtain ⟨rfl, hp20⟩ := hp20
        refine xt_lconst C 0 dX1_ways_23 (by decide +kernel) ?_
        refine xt_l_le C (mq_wtb hw hS3 hS0 hn6 hsy) (by decide) dX1_ways_24 dX1_ways_25 (tgt := 34) (by decide) (fun h24 => ?_) (fun h24 => ?_)
        · refine lv_iload_n C.1 C.2.1 dX1_ways_34 rfl (lv_at hl 2 rfl) ?_
          refine lv_istore_n C.1 C.2.1 dX1_ways_35 rfl hl (by decide) rfl (fun ls hl => ?_)
          replace hl : lv_has ls 4 [(1, .int (nI (ms_cnt (ms_wt (me w ro) S n) i))), (3, .int (nI i)), (2, .int (nI (S ^ n))), (0, .ref (am 0))] := hl
          refine lv_iinc (k := 1) C.1 C.2.1 dX1_ways_36 hl rfl xt_inc (by decide) rfl (fun ls hl => ?_)
          replace hl : lv_has ls 4 [(3, .int (nI (i + 1))), (1, .int (nI (ms_cnt (ms_wt (me w ro) S n) i))), (2, .int (nI (S ^ n))), (0, .ref (am 0))] := hl
          refine lv_goto C.1 C.2.1 dX1_ways_39 (tgt := 13) (by decide) ?_
          rw [← ms_cnt_z (show ms_wt (me w ro) S n i = 0 by omega)] at hl
          replace hl : lv_has ls 4 [(3, .int (nI (i + 1))), (1, .int (nI (ms_cnt (ms_wt (me w ro) S n) (i + 1)))), (2, .int (nI (S ^ n))), (0, .ref (am 0))] := hl
          exact ih13 _ (by omega) (i + 1) wa_20 rfl (by omega) ls _ _ (lv_sub hl [0, 2, 1, 3] rfl) hW
        · refine lv_iload_n C.1 C.2.1 dX1_ways_28 rfl (lv_at hl 2 rfl) ?_
          refine xt_iconst C 1 dX1_ways_29 (by decide +kernel) ?_
          refine xt_iadd C dX1_ways_30 ?_
          refine lv_goto C.1 C.2.1 dX1_ways_31 (tgt := 35) (by decide) ?_
          refine lv_istore_n C.1 C.2.1 dX1_ways_35 rfl hl (by decide) rfl (fun ls hl => ?_)
          replace hl : lv_has ls 4 [(1, .int (nI ((ms_cnt (ms_wt (me w ro) S n) i) + 1))), (3, .int (nI i)), (2, .int (nI (S ^ n))), (0, .ref (am 0))] := hl
          refine lv_iinc (k := 1) C.1 C.2.1 dX1_ways_36 hl rfl xt_inc (by decide) rfl (fun ls hl => ?_)
          replace hl : lv_has ls 4 [(3, .int (nI (i + 1))), (1, .int (nI ((ms_cnt (ms_wt (me w ro) S n) i) + 1))), (2, .int (nI (S ^ n))), (0, .ref (am 0))] := hl
          refine lv_goto C.1 C.2.1 dX1_ways_39 (tgt := 13) (by decide) ?_
          rw [← ms_cnt_s (show ms_wt (me w ro) S n i ≠ 0 by omega)] at hl
          replace hl : lv_has ls 4 [(3, .int (nI (i + 1))), (1, .int (nI (ms_cnt (ms_wt (me w ro) S n) (i + 1)))), (2, .int (nI (S ^ n))), (0, .ref (am 0))] := hl
          exact ih13 _ (by omega) (i + 1) wa_20 rfl (by omega) ls _ _ (lv_sub hl [0, 2, 1, 3] rfl) hW
  exact lp13 _ 0 wa rfl (Nat.zero_le _) ls _ _ (lv_sub hl [0, 1, 2, 3] rfl) hW
