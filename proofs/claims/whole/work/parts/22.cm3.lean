/-- the first of the greatest so far -/
def mq_best (a : Nat → Nat) (k : Nat) (bs : Int32) : Prop := (bs = -1 ∧ ∀ j, j < k → a j = 0) ∨ ∃ b, b < k ∧ bs = nI b ∧ a b ≠ 0 ∧ (∀ j, j < k → a j ≤ a b) ∧ (∀ j, j < b → a j < a b)
theorem mq_b0 {a : Nat → Nat} {k : Nat} {bs : Int32} (h : mq_best a k bs) (hz : a k = 0) : mq_best a (k + 1) bs := by
  rcases h with ⟨h1, h2⟩ | ⟨b, h1, h2, h3, h4, h5⟩
  · refine Or.inl ⟨h1, fun j hj => ?_⟩
    by_cases e : j = k
    · rw [e]; exact hz
    · exact h2 j (by omega)
  · refine Or.inr ⟨b, by omega, h2, h3, fun j hj => ?_, h5⟩
    by_cases e : j = k
    · rw [e, hz]; exact Nat.zero_le _
    · exact h4 j (by omega)
theorem mq_b1 {a : Nat → Nat} {k : Nat} (h2 : ∀ j, j < k → a j = 0) (hz : 0 < a k) : mq_best a (k + 1) (nI k) := by
  refine Or.inr ⟨k, by omega, rfl, by omega, fun j hj => ?_, fun j hj => by rw [h2 j hj]; exact hz⟩
  by_cases e : j = k
  · rw [e]; exact Nat.le_refl _
  · rw [h2 j (by omega)]; exact Nat.zero_le _
theorem mq_b2 {a : Nat → Nat} {k b : Nat} (h1 : b < k) (h3 : a b ≠ 0) (h4 : ∀ j, j < k → a j ≤ a b) (h5 : ∀ j, j < b → a j < a b) (hz : a k ≤ a b) : mq_best a (k + 1) (nI b) := by
  refine Or.inr ⟨b, by omega, rfl, h3, fun j hj => ?_, h5⟩
  by_cases e : j = k
  · rw [e]; exact hz
  · exact h4 j (by omega)
theorem mq_b3 {a : Nat → Nat} {k b : Nat} (h1 : b < k) (h4 : ∀ j, j < k → a j ≤ a b) (hz : a b < a k) : mq_best a (k + 1) (nI k) := by
  refine Or.inr ⟨k, by omega, rfl, by omega, fun j hj => ?_, fun j hj => by have := h4 j hj; omega⟩
  by_cases e : j = k
  · rw [e]; exact Nat.le_refl _
  · have := h4 j (by omega)
    omega
theorem mq_ini {W av g : Nat → Nat} {K wc r : Nat} (hr : r = 0) (h : ∀ z, z < K → av z = W z) : ∀ z, z < K → av z = if ∃ j, j < r ∧ j < wc ∧ g j = z then 0 else W z := by
  intro z hz
  rw [if_neg (by rintro ⟨j, h1, -⟩; omega)]
  exact h z hz
theorem mq_avl {W av g : Nat → Nat} {K wc r : Nat} (h : ∀ z, z < K → av z = if ∃ j, j < r ∧ j < wc ∧ g j = z then 0 else W z) {z : Nat} (hz : z < K) (hW : W z < 2 ^ 63) : av z < 2 ^ 63 := by
  rw [h z hz]
  split
  · decide
  · exact hW
theorem mq_nxt {W av g : Nat → Nat} {K wc r b : Nat} (h : ∀ z, z < K → av z = if ∃ j, j < r ∧ j < wc ∧ g j = z then 0 else W z) (hr : r < wc) (hb : g r = b) : ∀ z, z < K → va_up av b 0 z = if ∃ j, j < r + 1 ∧ j < wc ∧ g j = z then 0 else W z := by
  intro z hz
  by_cases e : z = b
  · rw [e, xq_up, if_pos ⟨r, by omega, hr, hb⟩]
  · rw [xq_un e, h z hz]
    by_cases c : ∃ j, j < r ∧ j < wc ∧ g j = z
    · rw [if_pos c]
      obtain ⟨j, c1, c2, c3⟩ := c
      rw [if_pos ⟨j, by omega, c2, c3⟩]
    · rw [if_neg c, if_neg]
      rintro ⟨j, c1, c2, c3⟩
      by_cases ej : j = r
      · rw [ej, hb] at c3
        exact e c3.symm
      · exact c ⟨j, by omega, c2, c3⟩
set_option maxHeartbeats 4000000 in
set_option maxRecDepth 100000 in
theorem cm_rank (l : Launch) (D : va_G) (cI cL : ClassId) (am : Nat → Nat) (S K n iz dz tp bt : Nat) (w ro wa ch al fr : Nat → Nat) (i : Nat) (wc : Nat) (rw rk g pk : Nat → Nat) (hV : mq_V S K n w ro) (hi12 : i < 12) (hrr : ms_rr (ms_wt (me w ro) S n) pk (S ^ n) wc rw rk g) : xt_M l yX1_rank cX1_rank 7 (some .int) 2 D cI cL [.ref (am 0), .int (nI i)] (xM am cI cL S K n iz dz tp bt w ro wa ch al fr) (xt_Qi D cI cL (xM am cI cL S K n iz dz tp bt w ro wa ch al fr) (fun (r : Int32) (u : (Nat → Nat) × (Nat → Nat)) => (i < wc ∧ r = nI (g i)) ∨ (¬ i < wc ∧ r = -1)) (fun u => xM am cI cL S K n iz dz tp bt w ro u.1 ch u.2 fr)) := by
  have hV2 := hV
  obtain ⟨hS0, hS3, hK0, hK4, hn6, hw, hsK⟩ := hV
  have hsy : ∀ p, p < n → ro p < 4 := fun p h => Nat.lt_of_lt_of_le (hsK p h) hK4
  have hpb := ms_pow_le hS3 hn6
  refine xt_start (own := RX1) rfl (by decide) (Nat.le_of_ble_eq_true rfl) (fun pg ev ss mi args below meth cd A Q ls C hE hA hl hW => ?_)
  replace hl : lv_has ls 7 [(0, .ref (am 0)), (1, .int (nI i))] := hl
  refine lv_aload_n C.1 C.2.1 dX1_rank_0 rfl (lv_at hl 0 rfl) ?_
  refine lv_aload_n C.1 C.2.1 dX1_rank_1 rfl (lv_at hl 0 rfl) ?_
  refine xt_get xt_inX1 C hW 0 rfl rfl 3 (by decide) rfl flX1_n rfl dX1_rank_2 ?_
  refine xt_ci hA hW (xt_runV C hW.1 hW.2.1 cwX1_X1_power (cm_power l D cI cL am S K n iz dz tp bt w ro wa ch al fr n (by omega)) rfl rfl rfl hl.1 (rest := []) rfl (Nat.le_of_ble_eq_true rfl) ⟨(Nat.le_of_ble_eq_true rfl), (Nat.le_of_ble_eq_true rfl)⟩ ⟨Nat.zero_le _, Nat.zero_le _⟩ dX1_rank_5) (fun r5 u H locs hp5 hW => ?_)
  replace hW : xt_W D A ss.heap (xM am cI cL S K n iz dz tp bt w ro wa ch al fr) H locs := hW
  subst hp5
  refine lv_istore_n C.1 C.2.1 dX1_rank_8 rfl hl (by decide) rfl (fun ls hl => ?_)
  replace hl : lv_has ls 7 [(2, .int (nI (S ^ n))), (0, .ref (am 0)), (1, .int (nI i))] := hl
  refine lv_iload_n C.1 C.2.1 dX1_rank_9 rfl (lv_at hl 2 rfl) ?_
  refine xt_if_lt C (by omega) dX1_rank_10 (tgt := 19) (by decide) ?_
  refine lv_iload_n C.1 C.2.1 dX1_rank_13 rfl (lv_at hl 2 rfl) ?_
  refine xt_bipush C 11 dX1_rank_14 (by decide +kernel) ?_
  refine xt_icmp_le C (by omega) (by omega) dX1_rank_16 (tgt := 21) (by decide) (fun h16 => ?_) (fun h16 => ?_)
  · refine xt_iconst C 0 dX1_rank_21 (by decide +kernel) ?_
    refine lv_istore_n C.1 C.2.1 dX1_rank_22 rfl hl (by decide) rfl (fun ls hl => ?_)
    replace hl : lv_has ls 7 [(3, .int (nI 0)), (2, .int (nI (S ^ n))), (0, .ref (am 0)), (1, .int (nI i))] := hl
    have lp23 : ∀ (mq0 : Nat) (j : Nat) (wv : Nat → Nat) (av : Nat → Nat), S ^ n - j = mq0 → (j ≤ S ^ n) → (∀ z, z < j → av z = ms_wt (me w ro) S n z) → ∀ (ls : Array Slot) (H : Heap) (locs : List Loc), lv_has ls 7 [(3, .int (nI j)), (2, .int (nI (S ^ n))), (0, .ref (am 0)), (1, .int (nI i))] → xt_W D A ss.heap (xM am cI cL S K n iz dz tp bt w ro wv ch av fr) H locs → W pg l ev (xt_R 2) ss mi args below meth cd H locs 0 0 Q (F0 mi 23 ls []) := by
      intro mq0
      induction mq0 using Nat.strongRecOn with
      | _ mq0 ih23 =>
        intro j wv av hq23 hj h1 ls H locs hl hW
        refine lv_iload_n C.1 C.2.1 dX1_rank_23 rfl (lv_at hl 0 rfl) ?_
        refine lv_iload_n C.1 C.2.1 dX1_rank_24 rfl (lv_at hl 1 rfl) ?_
        refine xt_icmp_ge C (by omega) (by omega) dX1_rank_25 (tgt := 45) (by decide) (fun h25 => ?_) (fun h25 => ?_)
        · refine lv_iconst (v := -1) C.1 C.2.1 dX1_rank_45 (by decide +kernel) ?_
          refine lv_istore_n C.1 C.2.1 dX1_rank_46 rfl hl (by decide) rfl (fun ls hl => ?_)
          replace hl : lv_has ls 7 [(3, .int (-1)), (2, .int (nI (S ^ n))), (0, .ref (am 0)), (1, .int (nI i))] := hl
          refine xt_iconst C 0 dX1_rank_47 (by decide +kernel) ?_
          refine lv_istore C.1 C.2.1 dX1_rank_48 hl (by decide) rfl (fun ls hl => ?_)
          replace hl : lv_has ls 7 [(4, .int (nI 0)), (3, .int (-1)), (2, .int (nI (S ^ n))), (0, .ref (am 0)), (1, .int (nI i))] := hl
          have lp50 : ∀ (mq0 : Nat) (r : Nat) (av2 : Nat → Nat) (fd : Int32), i + 1 - r = mq0 → (r ≤ i + 1) → (r ≤ wc) → (∀ z, z < S ^ n → av2 z = if ∃ j, j < r ∧ j < wc ∧ g j = z then 0 else ms_wt (me w ro) S n z) → (r = 0 ∨ fd = nI (g (r - 1))) → ∀ (ls : Array Slot) (H : Heap) (locs : List Loc), lv_has ls 7 [(4, .int (nI r)), (3, .int fd), (2, .int (nI (S ^ n))), (0, .ref (am 0)), (1, .int (nI i))] → xt_W D A ss.heap (xM am cI cL S K n iz dz tp bt w ro wv ch av2 fr) H locs → W pg l ev (xt_R 2) ss mi args below meth cd H locs 0 0 Q (F0 mi 50 ls []) := by
            intro mq0
            induction mq0 using Nat.strongRecOn with
            | _ mq0 ih50 =>
              intro r av2 fd hq50 hr hrw ha hf ls H locs hl hW
              refine lv_iload C.1 C.2.1 dX1_rank_50 (lv_at hl 0 rfl) ?_
              refine lv_iload_n C.1 C.2.1 dX1_rank_52 rfl (lv_at hl 4 rfl) ?_
              refine xt_icmp_gt C (by omega) (by omega) dX1_rank_53 (tgt := 137) (by decide) (fun h53 => ?_) (fun h53 => ?_)
              · refine lv_iload_n C.1 C.2.1 dX1_rank_137 rfl (lv_at hl 1 rfl) ?_
                exact xt_iret C hE (wv, av2) hW (Or.inl ⟨by omega, by rcases hf with q | q; (exfalso; omega); (rw [q, show r - 1 = i by omega])⟩) dX1_rank_138
              · refine lv_iconst (v := -1) C.1 C.2.1 dX1_rank_56 (by decide +kernel) ?_
                refine lv_istore C.1 C.2.1 dX1_rank_57 hl (by decide) rfl (fun ls hl => ?_)
                replace hl : lv_has ls 7 [(5, .int (-1)), (4, .int (nI r)), (3, .int fd), (2, .int (nI (S ^ n))), (0, .ref (am 0)), (1, .int (nI i))] := hl
                refine xt_iconst C 0 dX1_rank_59 (by decide +kernel) ?_
                refine lv_istore C.1 C.2.1 dX1_rank_60 hl (by decide) rfl (fun ls hl => ?_)
                replace hl : lv_has ls 7 [(6, .int (nI 0)), (5, .int (-1)), (4, .int (nI r)), (3, .int fd), (2, .int (nI (S ^ n))), (0, .ref (am 0)), (1, .int (nI i))] := hl
                have lp62 : ∀ (mq0 : Nat) (k : Nat) (bs : Int32), S ^ n - k = mq0 → (k ≤ S ^ n) → (mq_best av2 k bs) → ∀ (ls : Array Slot) (H : Heap) (locs : List Loc), lv_has ls 7 [(6, .int (nI k)), (5, .int bs), (4, .int (nI r)), (3, .int fd), (2, .int (nI (S ^ n))), (0, .ref (am 0)), (1, .int (nI i))] → xt_W D A ss.heap (xM am cI cL S K n iz dz tp bt w ro wv ch av2 fr) H locs → W pg l ev (xt_R 2) ss mi args below meth cd H locs 0 0 Q (F0 mi 62 ls []) := by
                  intro mq0
                  induction mq0 using Nat.strongRecOn with
                  | _ mq0 ih62 =>
                    intro k bs hq62 hk hb ls H locs hl hW
                    refine lv_iload C.1 C.2.1 dX1_rank_62 (lv_at hl 0 rfl) ?_
                    refine lv_iload_n C.1 C.2.1 dX1_rank_64 rfl (lv_at hl 4 rfl) ?_
                    refine xt_icmp_ge C (by omega) (by omega) dX1_rank_65 (tgt := 113) (by decide) (fun h65 => ?_) (fun h65 => ?_)
                    · rcases hb with ⟨rfl, hz⟩ | ⟨b, hb1, rfl, hb2, hb3, hb4⟩
                      · replace hl : lv_has ls 7 [(6, .int (nI k)), (5, .int (-1)), (4, .int (nI r)), (3, .int fd), (2, .int (nI (S ^ n))), (0, .ref (am 0)), (1, .int (nI i))] := hl
                        refine lv_iload C.1 C.2.1 dX1_rank_113 (lv_at hl 1 rfl) ?_
                        refine lv_if_ge C.1 C.2.1 dX1_rank_115 (tgt := 120) (by decide) (fun h115 => ?_) (fun h115 => ?_)
                        · exfalso
                          exact absurd h115 (by decide)
                        · refine lv_iconst (v := -1) C.1 C.2.1 dX1_rank_118 (by decide +kernel) ?_
                          exact xt_iret C hE (wv, av2) hW (Or.inr ⟨fun q => ms_rr_none hrr (show r < 12 by omega) ha (fun z hzz => hz z (by omega)) (by omega), rfl⟩) dX1_rank_119
                      · replace hl : lv_has ls 7 [(6, .int (nI k)), (5, .int (nI b)), (4, .int (nI r)), (3, .int fd), (2, .int (nI (S ^ n))), (0, .ref (am 0)), (1, .int (nI i))] := hl
                        refine lv_iload C.1 C.2.1 dX1_rank_113 (lv_at hl 1 rfl) ?_
                        refine xt_if_ge C (by omega) dX1_rank_115 (tgt := 120) (by decide) ?_
                        refine lv_aload_n C.1 C.2.1 dX1_rank_120 rfl (lv_at hl 5 rfl) ?_
                        refine xt_get xt_inX1 C hW 0 rfl rfl 9 (by decide) rfl flX1_all rfl dX1_rank_121 ?_
                        refine lv_iload C.1 C.2.1 dX1_rank_124 (lv_at hl 1 rfl) ?_
                        refine xt_lconst C 0 dX1_rank_126 (by decide +kernel) ?_
                        refine xt_last C hW 5 rfl (by decide) dX1_rank_127 (by omega) (fun H locs hW => ?_)
                        replace hW : xt_W D A ss.heap (xM am cI cL S K n iz dz tp bt w ro wv ch (va_up av2 b 0) fr) H locs := hW
                        refine lv_iload C.1 C.2.1 dX1_rank_128 (lv_at hl 1 rfl) ?_
                        refine lv_istore_n C.1 C.2.1 dX1_rank_130 rfl hl (by decide) rfl (fun ls hl => ?_)
                        replace hl : lv_has ls 7 [(3, .int (nI b)), (6, .int (nI k)), (5, .int (nI b)), (4, .int (nI r)), (2, .int (nI (S ^ n))), (0, .ref (am 0)), (1, .int (nI i))] := hl
                        refine lv_iinc (k := 3) C.1 C.2.1 dX1_rank_131 hl rfl xt_inc (by decide) rfl (fun ls hl => ?_)
                        replace hl : lv_has ls 7 [(4, .int (nI (r + 1))), (3, .int (nI b)), (6, .int (nI k)), (5, .int (nI b)), (2, .int (nI (S ^ n))), (0, .ref (am 0)), (1, .int (nI i))] := hl
                        refine lv_goto C.1 C.2.1 dX1_rank_134 (tgt := 50) (by decide) ?_
                        exact ih50 _ (by omega) (r + 1) (va_up av2 b 0) (nI b) rfl (by omega) ((ms_rr_best hrr (by omega) ha (by omega) hb2 (fun z hz => hb3 z (by omega)) hb4).1) (mq_nxt ha (ms_rr_best hrr (by omega) ha (by omega) hb2 (fun z hz => hb3 z (by omega)) hb4).1 (ms_rr_best hrr (by omega) ha (by omega) hb2 (fun z hz => hb3 z (by omega)) hb4).2) (Or.inr (by rw [Nat.add_sub_cancel, (ms_rr_best hrr (by omega) ha (by omega) hb2 (fun z hz => hb3 z (by omega)) hb4).2])) ls _ _ (lv_sub hl [0, 1, 4, 5, 6] rfl) hW
                    · refine lv_aload_n C.1 C.2.1 dX1_rank_68 rfl (lv_at hl 5 rfl) ?_
                      refine xt_get xt_inX1 C hW 0 rfl rfl 9 (by decide) rfl flX1_all rfl dX1_rank_69 ?_
                      refine lv_iload C.1 C.2.1 dX1_rank_72 (lv_at hl 0 rfl) ?_
                      refine xt_lald C hW 5 rfl (by decide) dX1_rank_74 (by omega) ?_
                      refine xt_lconst C 0 dX1_rank_75 (by decide +kernel) ?_
                      refine xt_l_le C (mq_avl ha (by omega) (mq_wtb hw hS3 hS0 hn6 hsy)) (by decide) dX1_rank_76 dX1_rank_77 (tgt := 107) (by decide) (fun h76 => ?_) (fun h76 => ?_)
                      · refine lv_iinc (k := 0) C.1 C.2.1 dX1_rank_107 hl rfl xt_inc (by decide) rfl (fun ls hl => ?_)
                        replace hl : lv_has ls 7 [(6, .int (nI (k + 1))), (5, .int bs), (4, .int (nI r)), (3, .int fd), (2, .int (nI (S ^ n))), (0, .ref (am 0)), (1, .int (nI i))] := hl
                        refine lv_goto C.1 C.2.1 dX1_rank_110 (tgt := 62) (by decide) ?_
                        exact ih62 _ (by omega) (k + 1) bs rfl (by omega) (mq_b0 hb (by omega)) ls _ _ (lv_sub hl [0, 1, 2, 3, 4, 5, 6] rfl) hW
                      · rcases hb with ⟨rfl, hz⟩ | ⟨b, hb1, rfl, hb2, hb3, hb4⟩
                        · replace hl : lv_has ls 7 [(6, .int (nI k)), (5, .int (-1)), (4, .int (nI r)), (3, .int fd), (2, .int (nI (S ^ n))), (0, .ref (am 0)), (1, .int (nI i))] := hl
                          refine lv_iload C.1 C.2.1 dX1_rank_80 (lv_at hl 1 rfl) ?_
                          refine lv_if_lt C.1 C.2.1 dX1_rank_82 (tgt := 103) (by decide) (fun h82 => ?_) (fun h82 => ?_)
                          · refine lv_iload C.1 C.2.1 dX1_rank_103 (lv_at hl 0 rfl) ?_
                            refine lv_istore C.1 C.2.1 dX1_rank_105 hl (by decide) rfl (fun ls hl => ?_)
                            replace hl : lv_has ls 7 [(5, .int (nI k)), (6, .int (nI k)), (4, .int (nI r)), (3, .int fd), (2, .int (nI (S ^ n))), (0, .ref (am 0)), (1, .int (nI i))] := hl
                            refine lv_iinc (k := 1) C.1 C.2.1 dX1_rank_107 hl rfl xt_inc (by decide) rfl (fun ls hl => ?_)
                            replace hl : lv_has ls 7 [(6, .int (nI (k + 1))), (5, .int (nI k)), (4, .int (nI r)), (3, .int fd), (2, .int (nI (S ^ n))), (0, .ref (am 0)), (1, .int (nI i))] := hl
                            refine lv_goto C.1 C.2.1 dX1_rank_110 (tgt := 62) (by decide) ?_
                            exact ih62 _ (by omega) (k + 1) (nI k) rfl (by omega) (mq_b1 hz h76) ls _ _ (lv_sub hl [0, 1, 2, 3, 4, 5, 6] rfl) hW
                          · exfalso
                            exact h82 (by decide)
                        · replace hl : lv_has ls 7 [(6, .int (nI k)), (5, .int (nI b)), (4, .int (nI r)), (3, .int fd), (2, .int (nI (S ^ n))), (0, .ref (am 0)), (1, .int (nI i))] := hl
                          refine lv_iload C.1 C.2.1 dX1_rank_80 (lv_at hl 1 rfl) ?_
                          refine xt_if_lt C (by omega) dX1_rank_82 (tgt := 103) (by decide) ?_
                          refine lv_aload_n C.1 C.2.1 dX1_rank_85 rfl (lv_at hl 5 rfl) ?_
                          refine xt_get xt_inX1 C hW 0 rfl rfl 9 (by decide) rfl flX1_all rfl dX1_rank_86 ?_
                          refine lv_iload C.1 C.2.1 dX1_rank_89 (lv_at hl 0 rfl) ?_
                          refine xt_lald C hW 5 rfl (by decide) dX1_rank_91 (by omega) ?_
                          refine lv_aload_n C.1 C.2.1 dX1_rank_92 rfl (lv_at hl 5 rfl) ?_
                          refine xt_get xt_inX1 C hW 0 rfl rfl 9 (by decide) rfl flX1_all rfl dX1_rank_93 ?_
                          refine lv_iload C.1 C.2.1 dX1_rank_96 (lv_at hl 1 rfl) ?_
                          refine xt_lald C hW 5 rfl (by decide) dX1_rank_98 (by omega) ?_
                          refine xt_l_le C (mq_avl ha (by omega) (mq_wtb hw hS3 hS0 hn6 hsy)) (mq_avl ha (by omega) (mq_wtb hw hS3 hS0 hn6 hsy)) dX1_rank_99 dX1_rank_100 (tgt := 107) (by decide) (fun h99 => ?_) (fun h99 => ?_)
                          · refine lv_iinc (k := 0) C.1 C.2.1 dX1_rank_107 hl rfl xt_inc (by decide) rfl (fun ls hl => ?_)
                            replace hl : lv_has ls 7 [(6, .int (nI (k + 1))), (5, .int (nI b)), (4, .int (nI r)), (3, .int fd), (2, .int (nI (S ^ n))), (0, .ref (am 0)), (1, .int (nI i))] := hl
                            refine lv_goto C.1 C.2.1 dX1_rank_110 (tgt := 62) (by decide) ?_
                            exact ih62 _ (by omega) (k + 1) (nI b) rfl (by omega) (mq_b2 hb1 hb2 hb3 hb4 h99) ls _ _ (lv_sub hl [0, 1, 2, 3, 4, 5, 6] rfl) hW
                          · refine lv_iload C.1 C.2.1 dX1_rank_103 (lv_at hl 0 rfl) ?_
                            refine lv_istore C.1 C.2.1 dX1_rank_105 hl (by decide) rfl (fun ls hl => ?_)
                            replace hl : lv_has ls 7 [(5, .int (nI k)), (6, .int (nI k)), (4, .int (nI r)), (3, .int fd), (2, .int (nI (S ^ n))), (0, .ref (am 0)), (1, .int (nI i))] := hl
                            refine lv_iinc (k := 1) C.1 C.2.1 dX1_rank_107 hl rfl xt_inc (by decide) rfl (fun ls hl => ?_)
                            replace hl : lv_has ls 7 [(6, .int (nI (k + 1))), (5, .int (nI k)), (4, .int (nI r)), (3, .int fd), (2, .int (nI (S ^ n))), (0, .ref (am 0)), (1, .int (nI i))] := hl
                            refine lv_goto C.1 C.2.1 dX1_rank_110 (tgt := 62) (by decide) ?_
                            exact ih62 _ (by omega) (k + 1) (nI k) rfl (by omega) (mq_b3 hb1 hb3 h99) ls _ _ (lv_sub hl [0, 1, 2, 3, 4, 5, 6] rfl) hW
                exact lp62 _ 0 (-1) rfl (Nat.zero_le _) (Or.inl ⟨rfl, fun j h => absurd h (Nat.not_lt_zero j)⟩) ls _ _ (lv_sub hl [0, 1, 2, 3, 4, 5, 6] rfl) hW
          exact lp50 _ 0 av (-1) rfl (Nat.zero_le _) (Nat.zero_le _) (mq_ini rfl (fun z hz => h1 z (by omega))) (Or.inl rfl) ls _ _ (lv_sub hl [0, 1, 2, 3, 4] rfl) hW
        · refine lv_aload_n C.1 C.2.1 dX1_rank_28 rfl (lv_at hl 2 rfl) ?_
          refine xt_get xt_inX1 C hW 0 rfl rfl 9 (by decide) rfl flX1_all rfl dX1_rank_29 ?_
          refine lv_iload_n C.1 C.2.1 dX1_rank_32 rfl (lv_at hl 0 rfl) ?_
          refine lv_aload_n C.1 C.2.1 dX1_rank_33 rfl (lv_at hl 2 rfl) ?_
          refine lv_iload_n C.1 C.2.1 dX1_rank_34 rfl (lv_at hl 0 rfl) ?_
          refine xt_cl hA hW (xt_runV C hW.1 hW.2.1 cwX1_X1_weightOf (cm_weightOf l D cI cL am S K n iz dz tp bt w ro wv ch av fr j (hV2) (by omega)) rfl rfl rfl hl.1 (rest := [.int (nI j), .ref (am 5)]) rfl (Nat.le_of_ble_eq_true rfl) ⟨(Nat.le_of_ble_eq_true rfl), (Nat.le_of_ble_eq_true rfl)⟩ ⟨Nat.zero_le _, Nat.zero_le _⟩ dX1_rank_35) (fun r35 u H locs hp35 hW => ?_)
          obtain ⟨wa_35, rfl⟩ : ∃ z, z = u := ⟨_, rfl⟩
          replace hW : xt_W D A ss.heap (xM am cI cL S K n iz dz tp bt w ro wa_35 ch av fr) H locs := hW
          replace hp35 : r35 = lN (ms_wt (me w ro) S n j) ∧ ∀ z1, z1 < n → wa_35 z1 = ms_dg S n j z1 := hp35
          obtain ⟨rfl, hp35⟩ := hp35
          refine xt_last C hW 5 rfl (by decide) dX1_rank_38 (by omega) (fun H locs hW => ?_)
          replace hW : xt_W D A ss.heap (xM am cI cL S K n iz dz tp bt w ro wa_35 ch (va_up av j (ms_wt (me w ro) S n j)) fr) H locs := hW
          refine lv_iinc (k := 0) C.1 C.2.1 dX1_rank_39 hl rfl xt_inc (by decide) rfl (fun ls hl => ?_)
          replace hl : lv_has ls 7 [(3, .int (nI (j + 1))), (2, .int (nI (S ^ n))), (0, .ref (am 0)), (1, .int (nI i))] := hl
          refine lv_goto C.1 C.2.1 dX1_rank_42 (tgt := 23) (by decide) ?_
          exact ih23 _ (by omega) (j + 1) wa_35 (va_up av j (ms_wt (me w ro) S n j)) rfl (by omega) (fun z hz => if e : z = j then (by rw [e, xq_up]) else (by rw [xq_un e]; exact h1 z (by omega))) ls _ _ (lv_sub hl [0, 1, 2, 3] rfl) hW
    exact lp23 _ 0 wa al rfl (Nat.zero_le _) (fun z h => absurd h (Nat.not_lt_zero z)) ls _ _ (lv_sub hl [0, 1, 2, 3] rfl) hW
  · exfalso
    omega
set_option maxHeartbeats 4000000 in
set_option maxRecDepth 100000 in
theorem cm_rank_x (l : Launch) (D : va_G) (cI cL : ClassId) (am : Nat → Nat) (S K n iz dz tp bt : Nat) (w ro wa ch al fr : Nat → Nat) (q : Int32) (hV : mq_V S K n w ro) (hno : ¬ ∃ j, j < 12 ∧ q = nI j) : xt_M l yX1_rank cX1_rank 7 (some .int) 2 D cI cL [.ref (am 0), .int q] (xM am cI cL S K n iz dz tp bt w ro wa ch al fr) (xt_Qi D cI cL (xM am cI cL S K n iz dz tp bt w ro wa ch al fr) (fun (r : Int32) (u : Unit) => r =  (-1)) (fun u => xM am cI cL S K n iz dz tp bt w ro wa ch al fr)) := by
  obtain ⟨hS0, hS3, hK0, hK4, hn6, hw, hsK⟩ := hV
  have hsy : ∀ p, p < n → ro p < 4 := fun p h => Nat.lt_of_lt_of_le (hsK p h) hK4
  refine xt_start (own := RX1) rfl (by decide) (Nat.le_of_ble_eq_true rfl) (fun pg ev ss mi args below meth cd A Q ls C hE hA hl hW => ?_)
  replace hl : lv_has ls 7 [(0, .ref (am 0)), (1, .int q)] := hl
  refine lv_aload_n C.1 C.2.1 dX1_rank_0 rfl (lv_at hl 0 rfl) ?_
  refine lv_aload_n C.1 C.2.1 dX1_rank_1 rfl (lv_at hl 0 rfl) ?_
  refine xt_get xt_inX1 C hW 0 rfl rfl 3 (by decide) rfl flX1_n rfl dX1_rank_2 ?_
  refine xt_ci hA hW (xt_runV C hW.1 hW.2.1 cwX1_X1_power (cm_power l D cI cL am S K n iz dz tp bt w ro wa ch al fr n (by omega)) rfl rfl rfl hl.1 (rest := []) rfl (Nat.le_of_ble_eq_true rfl) ⟨(Nat.le_of_ble_eq_true rfl), (Nat.le_of_ble_eq_true rfl)⟩ ⟨Nat.zero_le _, Nat.zero_le _⟩ dX1_rank_5) (fun r5 u H locs hp5 hW => ?_)
  replace hW : xt_W D A ss.heap (xM am cI cL S K n iz dz tp bt w ro wa ch al fr) H locs := hW
  subst hp5
  refine lv_istore_n C.1 C.2.1 dX1_rank_8 rfl hl (by decide) rfl (fun ls hl => ?_)
  replace hl : lv_has ls 7 [(2, .int (nI (S ^ n))), (0, .ref (am 0)), (1, .int q)] := hl
  refine lv_iload_n C.1 C.2.1 dX1_rank_9 rfl (lv_at hl 2 rfl) ?_
  refine lv_if_lt C.1 C.2.1 dX1_rank_10 (tgt := 19) (by decide) (fun h10 => ?_) (fun h10 => ?_)
  · refine lv_iconst (v := -1) C.1 C.2.1 dX1_rank_19 (by decide +kernel) ?_
    exact xt_iret C hE () hW (rfl) dX1_rank_20
  · refine lv_iload_n C.1 C.2.1 dX1_rank_13 rfl (lv_at hl 2 rfl) ?_
    refine xt_bipush C 11 dX1_rank_14 (by decide +kernel) ?_
    refine lv_icmp_le C.1 C.2.1 dX1_rank_16 (tgt := 21) (by decide) (fun h16 => ?_) (fun h16 => ?_)
    · exfalso
      exact hno (by obtain ⟨v, h1, h2⟩ := xq_le (m := 11) (by omega) h10 h16; exact ⟨v, by omega, h2⟩)
    · refine lv_iconst (v := -1) C.1 C.2.1 dX1_rank_19 (by decide +kernel) ?_
      exact xt_iret C hE () hW (rfl) dX1_rank_20
set_option maxHeartbeats 4000000 in
set_option maxRecDepth 100000 in
theorem cm_ranked_y (l : Launch) (D : va_G) (cI cL : ClassId) (am : Nat → Nat) (S K n iz dz tp bt : Nat) (w ro wa ch al fr : Nat → Nat) (i : Nat) (wc : Nat) (rw rk g pk : Nat → Nat) (hV : mq_V S K n w ro) (hi : i < min wc 12) (hrr : ms_rr (ms_wt (me w ro) S n) pk (S ^ n) wc rw rk g) : xt_M l yX1_ranked cX1_ranked 3 (some .long) 3 D cI cL [.ref (am 0), .int (nI i)] (xM am cI cL S K n iz dz tp bt w ro wa ch al fr) (xt_Ql D cI cL (xM am cI cL S K n iz dz tp bt w ro wa ch al fr) (fun (r : Int64) (u : (Nat → Nat) × (Nat → Nat)) => r = lN (ms_wt (me w ro) S n (g i))) (fun u => xM am cI cL S K n iz dz tp bt w ro u.1 ch u.2 fr)) := by
  have hV2 := hV
  obtain ⟨hS0, hS3, hK0, hK4, hn6, hw, hsK⟩ := hV
  have hsy : ∀ p, p < n → ro p < 4 := fun p h => Nat.lt_of_lt_of_le (hsK p h) hK4
  have hpb := ms_pow_le hS3 hn6
  have hgb := (hrr.2.1 i (by omega) (by omega)).1
  refine xt_start (own := RX1) rfl (by decide) (Nat.le_of_ble_eq_true rfl) (fun pg ev ss mi args below meth cd A Q ls C hE hA hl hW => ?_)
  replace hl : lv_has ls 3 [(0, .ref (am 0)), (1, .int (nI i))] := hl
  refine lv_aload_n C.1 C.2.1 dX1_ranked_0 rfl (lv_at hl 0 rfl) ?_
  refine lv_iload_n C.1 C.2.1 dX1_ranked_1 rfl (lv_at hl 1 rfl) ?_
  refine xt_ci hA hW (xt_runV C hW.1 hW.2.1 cwX1_X1_rank (cm_rank l D cI cL am S K n iz dz tp bt w ro wa ch al fr i wc rw rk g pk (hV2) (by omega) (hrr)) rfl rfl rfl hl.1 (rest := []) rfl (Nat.le_of_ble_eq_true rfl) ⟨(Nat.le_of_ble_eq_true rfl), (Nat.le_of_ble_eq_true rfl)⟩ ⟨Nat.zero_le _, Nat.zero_le _⟩ dX1_ranked_2) (fun r2 u H locs hp2 hW => ?_)
  obtain ⟨wa_2, al_2⟩ := u
  replace hW : xt_W D A ss.heap (xM am cI cL S K n iz dz tp bt w ro wa_2 ch al_2 fr) H locs := hW
  replace hp2 : (i < wc ∧ r2 = nI (g i)) ∨ (¬ i < wc ∧ r2 = -1) := hp2
  rcases hp2 with ⟨hri, rfl⟩ | ⟨hri, -⟩
  · replace hl : lv_has ls 3 [(0, .ref (am 0)), (1, .int (nI i))] := hl
    refine lv_istore_n C.1 C.2.1 dX1_ranked_5 rfl hl (by decide) rfl (fun ls hl => ?_)
    replace hl : lv_has ls 3 [(2, .int (nI (g i))), (0, .ref (am 0)), (1, .int (nI i))] := hl
    refine lv_iload_n C.1 C.2.1 dX1_ranked_6 rfl (lv_at hl 0 rfl) ?_
    refine xt_if_ge C (by omega) dX1_ranked_7 (tgt := 14) (by decide) ?_
    refine lv_aload_n C.1 C.2.1 dX1_ranked_14 rfl (lv_at hl 1 rfl) ?_
    refine lv_iload_n C.1 C.2.1 dX1_ranked_15 rfl (lv_at hl 0 rfl) ?_
    refine xt_cl hA hW (xt_runV C hW.1 hW.2.1 cwX1_X1_weightOf (cm_weightOf l D cI cL am S K n iz dz tp bt w ro wa_2 ch al_2 fr (g i) (hV2) (hgb)) rfl rfl rfl hl.1 (rest := []) rfl (Nat.le_of_ble_eq_true rfl) ⟨(Nat.le_of_ble_eq_true rfl), (Nat.le_of_ble_eq_true rfl)⟩ ⟨Nat.zero_le _, Nat.zero_le _⟩ dX1_ranked_16) (fun r16 u H locs hp16 hW => ?_)
    obtain ⟨wa_16, rfl⟩ : ∃ z, z = u := ⟨_, rfl⟩
    replace hW : xt_W D A ss.heap (xM am cI cL S K n iz dz tp bt w ro wa_16 ch al_2 fr) H locs := hW
    replace hp16 : r16 = lN (ms_wt (me w ro) S n (g i)) ∧ ∀ z1, z1 < n → wa_16 z1 = ms_dg S n (g i) z1 := hp16
    obtain ⟨rfl, hp16⟩ := hp16
    exact xt_lret C hE (wa_16, al_2) hW (rfl) dX1_ranked_19
  · exact absurd (show i < wc by omega) hri
set_option maxHeartbeats 4000000 in
set_option maxRecDepth 100000 in
theorem cm_ranked_n (l : Launch) (D : va_G) (cI cL : ClassId) (am : Nat → Nat) (S K n iz dz tp bt : Nat) (w ro wa ch al fr : Nat → Nat) (q : Int32) (wc : Nat) (rw rk g pk : Nat → Nat) (hV : mq_V S K n w ro) (hno : ¬ ∃ j, j < min wc 12 ∧ q = nI j) (hrr : ms_rr (ms_wt (me w ro) S n) pk (S ^ n) wc rw rk g) : xt_M l yX1_ranked cX1_ranked 3 (some .long) 3 D cI cL [.ref (am 0), .int q] (xM am cI cL S K n iz dz tp bt w ro wa ch al fr) (xt_Ql D cI cL (xM am cI cL S K n iz dz tp bt w ro wa ch al fr) (fun (r : Int64) (u : (Nat → Nat) × (Nat → Nat)) => r = lN 0) (fun u => xM am cI cL S K n iz dz tp bt w ro u.1 ch u.2 fr)) := by
  have hV2 := hV
  obtain ⟨hS0, hS3, hK0, hK4, hn6, hw, hsK⟩ := hV
  have hsy : ∀ p, p < n → ro p < 4 := fun p h => Nat.lt_of_lt_of_le (hsK p h) hK4
  refine xt_start (own := RX1) rfl (by decide) (Nat.le_of_ble_eq_true rfl) (fun pg ev ss mi args below meth cd A Q ls C hE hA hl hW => ?_)
  replace hl : lv_has ls 3 [(0, .ref (am 0)), (1, .int q)] := hl
  by_cases hin : ∃ j, j < 12 ∧ q = nI j
  · obtain ⟨i, hi12, rfl⟩ := hin
    replace hl : lv_has ls 3 [(0, .ref (am 0)), (1, .int (nI i))] := hl
    refine lv_aload_n C.1 C.2.1 dX1_ranked_0 rfl (lv_at hl 0 rfl) ?_
    refine lv_iload_n C.1 C.2.1 dX1_ranked_1 rfl (lv_at hl 1 rfl) ?_
    refine xt_ci hA hW (xt_runV C hW.1 hW.2.1 cwX1_X1_rank (cm_rank l D cI cL am S K n iz dz tp bt w ro wa ch al fr i wc rw rk g pk (hV2) (hi12) (hrr)) rfl rfl rfl hl.1 (rest := []) rfl (Nat.le_of_ble_eq_true rfl) ⟨(Nat.le_of_ble_eq_true rfl), (Nat.le_of_ble_eq_true rfl)⟩ ⟨Nat.zero_le _, Nat.zero_le _⟩ dX1_ranked_2) (fun r2 u H locs hp2 hW => ?_)
    obtain ⟨wa_2, al_2⟩ := u
    replace hW : xt_W D A ss.heap (xM am cI cL S K n iz dz tp bt w ro wa_2 ch al_2 fr) H locs := hW
    replace hp2 : (i < wc ∧ r2 = nI (g i)) ∨ (¬ i < wc ∧ r2 = -1) := hp2
    rcases hp2 with ⟨hri, -⟩ | ⟨hri, rfl⟩
    · exact absurd (⟨i, by omega, rfl⟩) hno
    · replace hl : lv_has ls 3 [(0, .ref (am 0)), (1, .int (nI i))] := hl
      refine lv_istore_n C.1 C.2.1 dX1_ranked_5 rfl hl (by decide) rfl (fun ls hl => ?_)
      replace hl : lv_has ls 3 [(2, .int (-1)), (0, .ref (am 0)), (1, .int (nI i))] := hl
      refine lv_iload_n C.1 C.2.1 dX1_ranked_6 rfl (lv_at hl 0 rfl) ?_
      refine lv_if_ge C.1 C.2.1 dX1_ranked_7 (tgt := 14) (by decide) (fun h7 => ?_) (fun h7 => ?_)
      · exfalso
        exact absurd h7 (by decide)
      · refine xt_lconst C 0 dX1_ranked_10 (by decide +kernel) ?_
        refine lv_goto C.1 C.2.1 dX1_ranked_11 (tgt := 19) (by decide) ?_
        exact xt_lret C hE (wa_2, al_2) hW (rfl) dX1_ranked_19
  · refine lv_aload_n C.1 C.2.1 dX1_ranked_0 rfl (lv_at hl 0 rfl) ?_
    refine lv_iload_n C.1 C.2.1 dX1_ranked_1 rfl (lv_at hl 1 rfl) ?_
    refine xt_ci hA hW (xt_runV C hW.1 hW.2.1 cwX1_X1_rank (cm_rank_x l D cI cL am S K n iz dz tp bt w ro wa ch al fr q (hV2) (hin)) rfl rfl rfl hl.1 (rest := []) rfl (Nat.le_of_ble_eq_true rfl) ⟨(Nat.le_of_ble_eq_true rfl), (Nat.le_of_ble_eq_true rfl)⟩ ⟨Nat.zero_le _, Nat.zero_le _⟩ dX1_ranked_2) (fun r2 u H locs hp2 hW => ?_)
    replace hW : xt_W D A ss.heap (xM am cI cL S K n iz dz tp bt w ro wa ch al fr) H locs := hW
    subst hp2
    refine lv_istore_n C.1 C.2.1 dX1_ranked_5 rfl hl (by decide) rfl (fun ls hl => ?_)
    replace hl : lv_has ls 3 [(2, .int (-1)), (0, .ref (am 0)), (1, .int q)] := hl
    refine lv_iload_n C.1 C.2.1 dX1_ranked_6 rfl (lv_at hl 0 rfl) ?_
    refine lv_if_ge C.1 C.2.1 dX1_ranked_7 (tgt := 14) (by decide) (fun h7 => ?_) (fun h7 => ?_)
    · exfalso
      exact absurd h7 (by decide)
    · refine xt_lconst C 0 dX1_ranked_10 (by decide +kernel) ?_
      refine lv_goto C.1 C.2.1 dX1_ranked_11 (tgt := 19) (by decide) ?_
      exact xt_lret C hE (wa, al) hW (rfl) dX1_ranked_19
set_option maxHeartbeats 4000000 in
set_option maxRecDepth 100000 in
theorem cm_stateOf_y (l : Launch) (D : va_G) (cI cL : ClassId) (am : Nat → Nat) (S K n iz dz tp bt : Nat) (w ro wa ch al fr : Nat → Nat) (i : Nat) (p : Nat) (wc : Nat) (rw rk g pk : Nat → Nat) (hV : mq_V S K n w ro) (hi : i < min wc 12) (hpn : p < n) (hrr : ms_rr (ms_wt (me w ro) S n) pk (S ^ n) wc rw rk g) : xt_M l yX1_stateOf cX1_stateOf 4 (some .int) 3 D cI cL [.ref (am 0), .int (nI i), .int (nI p)] (xM am cI cL S K n iz dz tp bt w ro wa ch al fr) (xt_Qi D cI cL (xM am cI cL S K n iz dz tp bt w ro wa ch al fr) (fun (r : Int32) (u : (Nat → Nat) × (Nat → Nat)) => r = nI (ms_dg S n (g i) p)) (fun u => xM am cI cL S K n iz dz tp bt w ro u.1 ch u.2 fr)) := by
  have hV2 := hV
  obtain ⟨hS0, hS3, hK0, hK4, hn6, hw, hsK⟩ := hV
  have hsy : ∀ p, p < n → ro p < 4 := fun p h => Nat.lt_of_lt_of_le (hsK p h) hK4
  have hpb := ms_pow_le hS3 hn6
  have hgb := (hrr.2.1 i (by omega) (by omega)).1
  refine xt_start (own := RX1) rfl (by decide) (Nat.le_of_ble_eq_true rfl) (fun pg ev ss mi args below meth cd A Q ls C hE hA hl hW => ?_)
  replace hl : lv_has ls 4 [(0, .ref (am 0)), (1, .int (nI i)), (2, .int (nI p))] := hl
  refine lv_aload_n C.1 C.2.1 dX1_stateOf_0 rfl (lv_at hl 0 rfl) ?_
  refine lv_iload_n C.1 C.2.1 dX1_stateOf_1 rfl (lv_at hl 1 rfl) ?_
  refine xt_ci hA hW (xt_runV C hW.1 hW.2.1 cwX1_X1_rank (cm_rank l D cI cL am S K n iz dz tp bt w ro wa ch al fr i wc rw rk g pk (hV2) (by omega) (hrr)) rfl rfl rfl hl.1 (rest := []) rfl (Nat.le_of_ble_eq_true rfl) ⟨(Nat.le_of_ble_eq_true rfl), (Nat.le_of_ble_eq_true rfl)⟩ ⟨Nat.zero_le _, Nat.zero_le _⟩ dX1_stateOf_2) (fun r2 u H locs hp2 hW => ?_)
  obtain ⟨wa_2, al_2⟩ := u
  replace hW : xt_W D A ss.heap (xM am cI cL S K n iz dz tp bt w ro wa_2 ch al_2 fr) H locs := hW
  replace hp2 : (i < wc ∧ r2 = nI (g i)) ∨ (¬ i < wc ∧ r2 = -1) := hp2
  rcases hp2 with ⟨hri, rfl⟩ | ⟨hri, -⟩
  · replace hl : lv_has ls 4 [(0, .ref (am 0)), (1, .int (nI i)), (2, .int (nI p))] := hl
    refine lv_istore_n C.1 C.2.1 dX1_stateOf_5 rfl hl (by decide) rfl (fun ls hl => ?_)
    replace hl : lv_has ls 4 [(3, .int (nI (g i))), (0, .ref (am 0)), (1, .int (nI i)), (2, .int (nI p))] := hl
    refine lv_iload_n C.1 C.2.1 dX1_stateOf_6 rfl (lv_at hl 0 rfl) ?_
    refine xt_if_lt C (by omega) dX1_stateOf_7 (tgt := 22) (by decide) ?_
    refine lv_iload_n C.1 C.2.1 dX1_stateOf_10 rfl (lv_at hl 3 rfl) ?_
    refine xt_if_lt C (by omega) dX1_stateOf_11 (tgt := 22) (by decide) ?_
    refine lv_iload_n C.1 C.2.1 dX1_stateOf_14 rfl (lv_at hl 3 rfl) ?_
    refine lv_aload_n C.1 C.2.1 dX1_stateOf_15 rfl (lv_at hl 1 rfl) ?_
    refine xt_get xt_inX1 C hW 0 rfl rfl 3 (by decide) rfl flX1_n rfl dX1_stateOf_16 ?_
    refine xt_icmp_lt C (by omega) (by omega) dX1_stateOf_19 (tgt := 24) (by decide) (fun h19 => ?_) (fun h19 => ?_)
    · refine lv_aload_n C.1 C.2.1 dX1_stateOf_24 rfl (lv_at hl 1 rfl) ?_
      refine lv_iload_n C.1 C.2.1 dX1_stateOf_25 rfl (lv_at hl 0 rfl) ?_
      refine xt_iconst C 0 dX1_stateOf_26 (by decide +kernel) ?_
      refine lv_aload_n C.1 C.2.1 dX1_stateOf_27 rfl (lv_at hl 1 rfl) ?_
      refine xt_get xt_inX1 C hW 0 rfl rfl 3 (by decide) rfl flX1_n rfl dX1_stateOf_28 ?_
      refine xt_iconst C 1 dX1_stateOf_31 (by decide +kernel) ?_
      refine lv_isub C.1 C.2.1 dX1_stateOf_32 ?_
      refine xt_cvd hA hW (xt_runV C hW.1 hW.2.1 cwX1_X1_spell (cm_spell l D cI cL am S K n iz dz tp bt w ro wa_2 ch al_2 fr (g i) 0 n (by omega) (by omega) (by omega) (by omega) (by omega)) rfl rfl rfl hl.1 (rest := []) rfl (Nat.le_of_ble_eq_true rfl) ⟨(Nat.le_of_ble_eq_true rfl), (Nat.le_of_ble_eq_true rfl)⟩ ⟨Nat.zero_le _, Nat.zero_le _⟩ dX1_stateOf_33) (fun u H locs hp33 hW => ?_)
      obtain ⟨wa_33, rfl⟩ : ∃ z, z = u := ⟨_, rfl⟩
      replace hW : xt_W D A ss.heap (xM am cI cL S K n iz dz tp bt w ro wa_33 ch al_2 fr) H locs := hW
      replace hp33 : (∀ z1, 0 ≤ z1 ∧ z1 < n → wa_33 z1 = (g i) / S ^ (n - 1 - z1) % S) ∧ (∀ z1, ¬ (0 ≤ z1 ∧ z1 < n) → wa_33 z1 = wa_2 z1) := hp33
      refine lv_aload_n C.1 C.2.1 dX1_stateOf_36 rfl (lv_at hl 1 rfl) ?_
      refine xt_get xt_inX1 C hW 0 rfl rfl 5 (by decide) rfl flX1_way rfl dX1_stateOf_37 ?_
      refine lv_iload_n C.1 C.2.1 dX1_stateOf_40 rfl (lv_at hl 3 rfl) ?_
      refine xt_iald C hW 3 rfl (by decide) dX1_stateOf_41 (by omega) ?_
      refine W.eq (g2 := F0 mi 42 ls [.int (nI (wa_33 p))]) rfl ?_
      exact xt_iret C hE (wa_33, al_2) hW (by show nI (wa_33 p) = nI _; rw [hp33.1 p ⟨Nat.zero_le _, hpn⟩]; rfl) dX1_stateOf_42
    · exfalso
      omega
  · exact absurd (show i < wc by omega) hri
set_option maxHeartbeats 4000000 in
set_option maxRecDepth 100000 in
theorem cm_stateOf_n (l : Launch) (D : va_G) (cI cL : ClassId) (am : Nat → Nat) (S K n iz dz tp bt : Nat) (w ro wa ch al fr : Nat → Nat) (p : Int32) (q : Int32) (wc : Nat) (rw rk g pk : Nat → Nat) (hV : mq_V S K n w ro) (hno : ¬ ((∃ j, j < min wc 12 ∧ p = nI j) ∧ ∃ j, j < n ∧ q = nI j)) (hrr : ms_rr (ms_wt (me w ro) S n) pk (S ^ n) wc rw rk g) : xt_M l yX1_stateOf cX1_stateOf 4 (some .int) 3 D cI cL [.ref (am 0), .int p, .int q] (xM am cI cL S K n iz dz tp bt w ro wa ch al fr) (xt_Qi D cI cL (xM am cI cL S K n iz dz tp bt w ro wa ch al fr) (fun (r : Int32) (u : (Nat → Nat) × (Nat → Nat)) => r =  (-1)) (fun u => xM am cI cL S K n iz dz tp bt w ro u.1 ch u.2 fr)) := by
  have hV2 := hV
  obtain ⟨hS0, hS3, hK0, hK4, hn6, hw, hsK⟩ := hV
  have hsy : ∀ p, p < n → ro p < 4 := fun p h => Nat.lt_of_lt_of_le (hsK p h) hK4
  refine xt_start (own := RX1) rfl (by decide) (Nat.le_of_ble_eq_true rfl) (fun pg ev ss mi args below meth cd A Q ls C hE hA hl hW => ?_)
  replace hl : lv_has ls 4 [(0, .ref (am 0)), (1, .int p), (2, .int q)] := hl
  by_cases hin : ∃ j, j < 12 ∧ p = nI j
  · obtain ⟨i, hi12, rfl⟩ := hin
    replace hl : lv_has ls 4 [(0, .ref (am 0)), (1, .int (nI i)), (2, .int q)] := hl
    refine lv_aload_n C.1 C.2.1 dX1_stateOf_0 rfl (lv_at hl 0 rfl) ?_
    refine lv_iload_n C.1 C.2.1 dX1_stateOf_1 rfl (lv_at hl 1 rfl) ?_
    refine xt_ci hA hW (xt_runV C hW.1 hW.2.1 cwX1_X1_rank (cm_rank l D cI cL am S K n iz dz tp bt w ro wa ch al fr i wc rw rk g pk (hV2) (hi12) (hrr)) rfl rfl rfl hl.1 (rest := []) rfl (Nat.le_of_ble_eq_true rfl) ⟨(Nat.le_of_ble_eq_true rfl), (Nat.le_of_ble_eq_true rfl)⟩ ⟨Nat.zero_le _, Nat.zero_le _⟩ dX1_stateOf_2) (fun r2 u H locs hp2 hW => ?_)
    obtain ⟨wa_2, al_2⟩ := u
    replace hW : xt_W D A ss.heap (xM am cI cL S K n iz dz tp bt w ro wa_2 ch al_2 fr) H locs := hW
    replace hp2 : (i < wc ∧ r2 = nI (g i)) ∨ (¬ i < wc ∧ r2 = -1) := hp2
    rcases hp2 with ⟨hri, rfl⟩ | ⟨hri, rfl⟩
    · have hgb := (hrr.2.1 i hri hi12).1
      have hpb := ms_pow_le hS3 hn6
      replace hl : lv_has ls 4 [(0, .ref (am 0)), (1, .int (nI i)), (2, .int q)] := hl
      refine lv_istore_n C.1 C.2.1 dX1_stateOf_5 rfl hl (by decide) rfl (fun ls hl => ?_)
      replace hl : lv_has ls 4 [(3, .int (nI (g i))), (0, .ref (am 0)), (1, .int (nI i)), (2, .int q)] := hl
      refine lv_iload_n C.1 C.2.1 dX1_stateOf_6 rfl (lv_at hl 0 rfl) ?_
      refine xt_if_lt C (by omega) dX1_stateOf_7 (tgt := 22) (by decide) ?_
      refine lv_iload_n C.1 C.2.1 dX1_stateOf_10 rfl (lv_at hl 3 rfl) ?_
      refine lv_if_lt C.1 C.2.1 dX1_stateOf_11 (tgt := 22) (by decide) (fun h11 => ?_) (fun h11 => ?_)
      · refine lv_iconst (v := -1) C.1 C.2.1 dX1_stateOf_22 (by decide +kernel) ?_
        exact xt_iret C hE (wa_2, al_2) hW (rfl) dX1_stateOf_23
      · refine lv_iload_n C.1 C.2.1 dX1_stateOf_14 rfl (lv_at hl 3 rfl) ?_
        refine lv_aload_n C.1 C.2.1 dX1_stateOf_15 rfl (lv_at hl 1 rfl) ?_
        refine xt_get xt_inX1 C hW 0 rfl rfl 3 (by decide) rfl flX1_n rfl dX1_stateOf_16 ?_
        refine lv_icmp_lt C.1 C.2.1 dX1_stateOf_19 (tgt := 24) (by decide) (fun h19 => ?_) (fun h19 => ?_)
        · exfalso
          exact hno ⟨⟨i, by omega, rfl⟩, xq_yes (by omega) h11 (fun q => absurd h19 (Int32.not_lt.mpr q))⟩
        · refine lv_iconst (v := -1) C.1 C.2.1 dX1_stateOf_22 (by decide +kernel) ?_
          exact xt_iret C hE (wa_2, al_2) hW (rfl) dX1_stateOf_23
    · replace hl : lv_has ls 4 [(0, .ref (am 0)), (1, .int (nI i)), (2, .int q)] := hl
      refine lv_istore_n C.1 C.2.1 dX1_stateOf_5 rfl hl (by decide) rfl (fun ls hl => ?_)
      replace hl : lv_has ls 4 [(3, .int (-1)), (0, .ref (am 0)), (1, .int (nI i)), (2, .int q)] := hl
      refine lv_iload_n C.1 C.2.1 dX1_stateOf_6 rfl (lv_at hl 0 rfl) ?_
      refine lv_if_lt C.1 C.2.1 dX1_stateOf_7 (tgt := 22) (by decide) (fun h7 => ?_) (fun h7 => ?_)
      · refine lv_iconst (v := -1) C.1 C.2.1 dX1_stateOf_22 (by decide +kernel) ?_
        exact xt_iret C hE (wa_2, al_2) hW (rfl) dX1_stateOf_23
      · exfalso
        exact h7 (by decide)
  · refine lv_aload_n C.1 C.2.1 dX1_stateOf_0 rfl (lv_at hl 0 rfl) ?_
    refine lv_iload_n C.1 C.2.1 dX1_stateOf_1 rfl (lv_at hl 1 rfl) ?_
    refine xt_ci hA hW (xt_runV C hW.1 hW.2.1 cwX1_X1_rank (cm_rank_x l D cI cL am S K n iz dz tp bt w ro wa ch al fr p (hV2) (hin)) rfl rfl rfl hl.1 (rest := []) rfl (Nat.le_of_ble_eq_true rfl) ⟨(Nat.le_of_ble_eq_true rfl), (Nat.le_of_ble_eq_true rfl)⟩ ⟨Nat.zero_le _, Nat.zero_le _⟩ dX1_stateOf_2) (fun r2 u H locs hp2 hW => ?_)
    replace hW : xt_W D A ss.heap (xM am cI cL S K n iz dz tp bt w ro wa ch al fr) H locs := hW
    subst hp2
    refine lv_istore_n C.1 C.2.1 dX1_stateOf_5 rfl hl (by decide) rfl (fun ls hl => ?_)
    replace hl : lv_has ls 4 [(3, .int (-1)), (0, .ref (am 0)), (1, .int p), (2, .int q)] := hl
    refine lv_iload_n C.1 C.2.1 dX1_stateOf_6 rfl (lv_at hl 0 rfl) ?_
    refine lv_if_lt C.1 C.2.1 dX1_stateOf_7 (tgt := 22) (by decide) (fun h7 => ?_) (fun h7 => ?_)
    · refine lv_iconst (v := -1) C.1 C.2.1 dX1_stateOf_22 (by decide +kernel) ?_
      exact xt_iret C hE (wa, al) hW (rfl) dX1_stateOf_23
    · exfalso
      exact h7 (by decide)
